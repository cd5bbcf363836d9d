/-! THE GROUND OF p1: the classes, what the tables give for good, starts and ends of contracts, calls. Own text. -/
section GB
abbrev gC : List vw_C := [(RX0, TX0, 11), (RX1, TX1, 9), (RX2, TX2, 3), (RX3, TX3, 5), (RX4, TX4, 5), (RX5, TX5, 3), (RX6, TX6, 1), (RX7, TX7, 10), (RX8, TX8, 2), (RX9, TX9, 12), (RX10, TX10, 50)]
abbrev gT (cI cC cZ cP cL : ClassId) : List (ClassId × FieldType) := [(cI, .int), (cC, .char), (cZ, .boolean), (cP, .object "ExactTurtle$Program"), (cL, .long)]
abbrev aI (c : ClassId) (n : Nat) (f : Nat → Int32) : va_E := .inl (c, n, .inl f)
abbrev aL (c : ClassId) (n : Nat) (f : Nat → Int64) : va_E := .inl (c, n, .inr (.inl f))
abbrev aQ (c : ClassId) (n : Nat) (f : Nat → Option Nat) : va_E := .inl (c, n, .inr (.inr (.inr (.inr f))))
abbrev oB (ci : Nat) (fs : List Value) : va_E := .inr (ci, fs)
abbrev z0 : Nat → Int32 := fun _ => 0
abbrev zL : Nat → Int64 := fun _ => 0
abbrev zq : Nat → Option Nat := fun _ => none
def gF : List (String × Nat × String × String × String × String) := [(RX9, 101, RX0, "length", "I", RX9), (RX9, 214, RX5, "count", "I", RX9), (RX9, 236, RX8, "letters", "[C", RX9), (RX9, 84, RX7, "directions", "I", RX9), (RX8, 33, RX7, "directions", "I", RX9), (RX5, 53, RX7, "directions", "I", RX9), (RX1, 79, RX7, "directions", "I", RX9), (RX5, 26, RX7, "segments", "I", RX9), (RX8, 55, RX7, "segments", "I", RX9), (RX9, 141, RX7, "segments", "I", RX9), (RX9, 188, RX7, "meetingPairs", "I", RX9), (RX9, 191, RX7, "crossingPairs", "I", RX9), (RX9, 196, RX7, "firstPair", "I", RX9), (RX9, 80, RX1, "track", "LExactTurtle$Track;", RX9), (RX4, 126, RX1, "callCounts", "[I", RX9), (RX9, 255, RX1, "callOrder", "[I", RX9), (RX6, 15, RX1, "basics", "I", RX9), (RX4, 107, RX1, "basics", "I", RX9), (RX9, 138, RX1, "basics", "I", RX9), (RX9, 250, RX1, "namesCalled", "I", RX9), (RX9, 162, RX1, "turned", "I", RX9), (RX4, 39, RX3, "size", "I", RX9), (RX9, 122, RX3, "commands", "I", RX9)]
def gM : List (String × Nat × MethodName × String) := [(RX9, 9, yX0_init, RX9), (RX9, 18, yX2_init, RX9), (RX9, 25, yX4_init, RX9), (RX9, 32, yX5_init, RX9), (RX9, 39, yX8_init, RX9), (RX9, 46, yX6_init, RX9), (RX9, 61, yX1_init, RX9), (RX1, 11, yX7_init, RX9), (RX1, 82, yX9_wrap, RX9), (RX7, 58, yX9_signOf, RX9), (RX0, 60, yX9_nameIndex, RX9), (RX4, 65, yX9_nameIndex, RX9), (RX7, 40, yX9_movePart, RX9), (RX5, 31, yX9_wrap, RX9), (RX8, 51, yX9_movePart, RX9), (RX8, 47, yX9_wrap, RX9), (RX1, 90, yX9_digitsOf, RX9), (RX6, 47, yX9_digitsOf, RX9)]
def gDl : List MethodName := [⟨"java/lang/RuntimeException", "<init>", "()V"⟩, ⟨"java/lang/RuntimeException", "<init>", "(Ljava/lang/String;)V"⟩, ⟨"java/lang/Exception", "<init>", "()V"⟩, ⟨"java/lang/Exception", "<init>", "(Ljava/lang/String;)V"⟩, ⟨"java/lang/Throwable", "<init>", "()V"⟩, ⟨"java/lang/Throwable", "<init>", "(Ljava/lang/String;)V"⟩, ⟨"java/lang/IndexOutOfBoundsException", "<init>", "()V"⟩, ⟨"java/lang/IndexOutOfBoundsException", "<init>", "(Ljava/lang/String;)V"⟩]
def gCs : List (String × String) := [("java/lang/IllegalArgumentException", "java/lang/IllegalArgumentException"), ("java/lang/IllegalStateException", "java/lang/IllegalStateException"), ("java/lang/ArithmeticException", "java/lang/ArithmeticException"), ("java/util/NoSuchElementException", "java/util/NoSuchElementException"), ("java/lang/ArrayIndexOutOfBoundsException", "java/lang/ArrayIndexOutOfBoundsException"), ("java/lang/IndexOutOfBoundsException", "java/lang/IndexOutOfBoundsException")]
def gSt : List (String × Nat × String) := [(RX9, 75, "directions"), (RX9, 98, "the buffer is full"), (RX9, 108, "name"), (RX9, 146, "point or part"), (RX9, 153, "segment"), (RX9, 171, "every execution leads further away"), (RX9, 177, "part"), (RX9, 179, "the track is not closed"), (RX9, 194, "no segments meet"), (RX9, 199, "side or part"), (RX9, 208, "the track is not smooth"), (RX9, 220, "the track is not smooth or has no corner"), (RX9, 228, "limit"), (RX9, 234, "no walk within the limit"), (RX9, 242, "place"), (RX9, 244, "too many basic commands"), (RX9, 253, "index"), (RX9, 261, "size"), (RX9, 278, "nothing was saved")]

/-- what the tables give for good -/
def gE (D : va_G) (T : List (ClassId × FieldType)) (U : State) : Prop :=
  va_K D gC T U ∧ (∀ q ∈ gF, va_Nw (.fieldLinkNest q.1 q.2.1 q.2.2.1 q.2.2.2.1 q.2.2.2.2.1 q.2.2.2.2.2) U) ∧ (∀ q ∈ gM, va_Nw (.methodLinkNest q.1 q.2.1 q.2.2.1 q.2.2.2) U) ∧ va_AO "ExactTurtle$Program" U ∧ (∀ q ∈ gDl, va_Nw (.declares q) U) ∧ (∀ q ∈ gCs, va_Nw (.castable q.1 q.2) U) ∧ (∀ q ∈ gSt, ∃ a : Nat, vk_R q.1 q.2.1 q.2.2 a U)
theorem gE_warm {D : va_G} {T : List (ClassId × FieldType)} {s U : State} (hW : s.WarmedH U.vm) (h : gE D T s) : gE D T U := by
  obtain ⟨h1, h2, h3, h4, h5, h6, h7⟩ := h
  exact ⟨va_K.moved hW.alike h1, fun q hq => va_Nw.warmF hW (h2 q hq), fun q hq => va_Nw.warmM hW (h3 q hq), va_AO.moved hW.alike h4, fun q hq => va_Nw.warmD hW (h5 q hq), fun q hq => va_Nw.warmC hW (h6 q hq), fun q hq => by obtain ⟨a, h⟩ := h7 q hq; exact ⟨a, vk_R.warm hW h⟩⟩
theorem gE_call {D : va_G} {T : List (ClassId × FieldType)} {U : State} (g : JFrame) (mk : MethodId) (a : Array Value) (h : gE D T U) : gE D T (U.calling g mk a) := gE_warm (State.WarmedH.refl U) h
theorem g_fm {α β : Type} {f : α → Option β} : ∀ {is : List α} {w : List β}, is.map f = w.map some → is.filterMap f = w
  | [], [], _ => rfl
  | [], _ :: _, h => by simp at h
  | _ :: _, [], h => by simp at h
  | a :: is, b :: w, h => by
    simp only [List.map_cons, List.cons.injEq] at h
    rw [List.filterMap_cons, h.1, g_fm h.2]
theorem g_ra {s : State} {a b : ClassId} {ty : FieldType} (h1 : va_RA s a ty) (h2 : va_RA s b ty) : a = b := by
  cases ty with
  | object C =>
    obtain ⟨k1, c1, -, -, -, e1⟩ := h1
    obtain ⟨k2, c2, -, -, -, e2⟩ := h2
    exact Option.some.inj (e1.symm.trans e2)
  | _ => exact Option.some.inj (Eq.trans (Eq.symm h1) h2)
abbrev gB {S : Type} (D : va_G) (wo : S → va_W) (A : Nat → Prop) : S → State → Prop := fun u t => va_P D gC (wo u) t.heap ∧ va_D A (wo u)
/-- where the two statics of Throwable lie -/
def gZ (A : Nat → Prop) (U : State) (H : Heap) : Prop := vx_Zq Bundle.tN "UNASSIGNED_STACK" Bundle.steD A U H ∧ vx_Zq Bundle.tN "SUPPRESSED_SENTINEL" Bundle.listD A U H
/-- a contract's start -/
def gPC (D : va_G) (T : List (ClassId × FieldType)) (wc : va_W) (sz : Nat) (av : List Value) : Array Value → State → Prop := va_Pc av (fun U => U.heap.size = sz ∧ va_P D gC wc U.heap ∧ gE D T U ∧ va_D (fun _ => True) wc)
/-- .. of a method that throws -/
def gPX (D : va_G) (T : List (ClassId × FieldType)) (wc : va_W) (sz : Nat) (av : List Value) : Array Value → State → Prop := va_Pc av (fun U => U.heap.size = sz ∧ va_P D gC wc U.heap ∧ gE D T U ∧ va_D (fun _ => True) wc ∧ gZ (va_A wc sz) U U.heap)
theorem gPC_blind {D : va_G} {T : List (ClassId × FieldType)} {wc : va_W} {sz : Nat} {av : List Value} : FrameBlind (gPC D T wc sz av) := fun a U g mk q => ⟨q.1, q.2.1, q.2.2.1, gE_call g mk a q.2.2.2.1, q.2.2.2.2⟩
theorem gPX_blind {D : va_G} {T : List (ClassId × FieldType)} {wc : va_W} {sz : Nat} {av : List Value} : FrameBlind (gPX D T wc sz av) := fun a U g mk q => ⟨q.1, q.2.1, q.2.2.1, gE_call g mk a q.2.2.2.1, q.2.2.2.2.1, vx_Zq.moved (u := U) (U := U.calling g mk a) (Vm.Alike.refl U.vm) q.2.2.2.2.2.1, vx_Zq.moved (u := U) (U := U.calling g mk a) (Vm.Alike.refl U.vm) q.2.2.2.2.2.2⟩
theorem gPC_of {D : va_G} {T : List (ClassId × FieldType)} {s : State} {H : Heap} {A : Nat → Prop} {wc : va_W} {av : List Value} (hP : va_P D gC wc H) (hD : va_D A wc) (hE : gE D T s) : ∀ U : State, U.heap = H → s.WarmedH U.vm → gPC D T wc H.size av av.toArray U := fun U hU hW => ⟨rfl, by rw [hU], by rw [hU]; exact hP, gE_warm hW hE, hD.weaken (fun _ _ _ _ => trivial)⟩
theorem gPX_of {D : va_G} {T : List (ClassId × FieldType)} {s : State} {H : Heap} {A : Nat → Prop} {wc : va_W} {av : List Value} {locs : List Loc} (hP : va_P D gC wc H) (hD : va_D A wc) (hE : gE D T s) (hZ : gZ A s s.heap) (hS : va_S A s.heap H locs) (hF : ∀ q, va_A wc H.size q → A q) : ∀ U : State, U.heap = H → s.WarmedH U.vm → gPX D T wc H.size av av.toArray U := fun U hU hW => ⟨rfl, by rw [hU], by rw [hU]; exact hP, gE_warm hW hE, hD.weaken (fun _ _ _ _ => trivial), by rw [hU]; exact ⟨vx_Zq.moved hW.alike ((hZ.1.kept hS.2.1).narrow hF), vx_Zq.moved hW.alike ((hZ.2.kept hS.2.1).narrow hF)⟩⟩
set_option maxHeartbeats 4000000 in
/-- a body without handlers -/
theorem gOf {l : Launch} {y : MethodName} {ws ws' : List Cond} {rm : Room} {D : va_G} {T : List (ClassId × FieldType)} {wc : va_W} {sz : Nat} {av : List Value} {Qc : Array Value → State → Outcome → State → Prop} {mc ms : Nat} {cc : ByteArray} {maxL : Nat} {ret : Option FieldType} (hy : plainName y.cls = true) (hw : ws = Cond.code y cc maxL ret :: ws') (hn : (lg_sl av).length ≤ maxL)
    (body : ∀ (p : Program) (e : Env) (s : State) (m : MethodId) (below : List Frame) (meth : Method) (c : Code) (A : Nat → Prop) (H : Heap), p.tables.exec = Jvm.exec → c.code = cc → meth.sig.returnType = ret → (∀ w ∈ ws, w.before av.toArray s = true) → s.vm.findClass y.cls = some m.cls → meth.locks = false → meth.name = y.name → c.maxLocals = maxL → va_A wc sz = A → (∀ q : Nat, s.heap.size ≤ q → A q) → s.heap.size = sz → va_P D gC wc H → gE D T s → va_D A wc → va_S A s.heap H [] → ∀ ls : Array Slot, lv_has ls maxL (lv_args 0 av) → W p l e rm s m av.toArray below meth c H [] 0 0 (MQ below Qc av.toArray s mc ms (va_A wc sz)) (F0 m 0 ls [])) : Met l y ws rm (gPC D T wc sz av) Qc mc ms (va_A wc sz) := by
  refine Met.ofW hy hw ?_
  intro p e s m args below meth c s₁ B hml hv
  obtain ⟨rfl, hsz, hP, hE, hD0⟩ := hv
  rw [lg_entry_eq]
  subst hsz
  exact body p e s m below meth c _ s.heap B.exec B.bytes B.returns (atoms_spec (ws := ws) B.pre) (findClass_of_methodNamed B.named) B.notSynchronized (name_of_methodNamed B.named B.method).1 hml rfl (fun q h => Or.inr h) rfl hP hE hD0.self va_S.rf _ (lv_entry av hn)
set_option maxHeartbeats 4000000 in
/-- a body that throws -/
theorem gXOf {l : Launch} {y : MethodName} {ws ws' : List Cond} {rm : Room} {D : va_G} {T : List (ClassId × FieldType)} {wc : va_W} {sz : Nat} {av : List Value} {Qc : Array Value → State → Outcome → State → Prop} {XC : String → State → State → Prop} {mc ms : Nat} {cc : ByteArray} {maxL : Nat} {ret : Option FieldType} (hy : plainName y.cls = true) (hw : ws = Cond.code y cc maxL ret :: ws') (hn : (lg_sl av).length ≤ maxL)
    (body : ∀ (p : Program) (e : Env) (s : State) (m : MethodId) (below : List Frame) (meth : Method) (c : Code) (A : Nat → Prop) (H : Heap), p.tables.exec = Jvm.exec → c.code = cc → meth.sig.returnType = ret → (∀ w ∈ ws, w.before av.toArray s = true) → s.vm.findClass y.cls = some m.cls → meth.locks = false → meth.name = y.name → c.maxLocals = maxL → va_A wc sz = A → (∀ q : Nat, s.heap.size ≤ q → A q) → s.heap.size = sz → va_P D gC wc H → gE D T s → va_D A wc → va_S A s.heap H [] → ∀ ls : Array Slot, lv_has ls maxL (lv_args 0 av) → gZ A s s.heap → (∀ x ∈ c.exceptionTable.toList, False) → W p l e rm s m av.toArray below meth c H [] 0 0 (vx_MQ below Qc XC av.toArray s mc ms (va_A wc sz)) (F0 m 0 ls [])) : vx_Met l y ws rm (gPX D T wc sz av) Qc XC mc ms (va_A wc sz) := by
  refine vx_ofW hy hw ?_
  intro p e s m args below meth c s₁ B hml ht hv
  obtain ⟨rfl, hsz, hP, hE, hD0, hZ⟩ := hv
  rw [lg_entry_eq]
  subst hsz
  exact body p e s m below meth c _ s.heap B.exec B.bytes B.returns (atoms_spec (ws := ws) B.pre) (findClass_of_methodNamed B.named) B.notSynchronized (name_of_methodNamed B.named B.method).1 hml rfl (fun q h => Or.inr h) rfl hP hE hD0.self va_S.rf _ (lv_entry av hn) hZ ht
set_option maxHeartbeats 4000000 in
/-- a body with handlers, that returns -/
theorem gWOf {l : Launch} {y : MethodName} {ws ws' : List Cond} {rm : Room} {D : va_G} {T : List (ClassId × FieldType)} {wc : va_W} {sz : Nat} {av : List Value} {Qc : Array Value → State → Outcome → State → Prop} {mc ms : Nat} {cc : ByteArray} {maxL : Nat} {ret : Option FieldType} {hh : List (Nat × Nat × Nat × Nat)} (hy : plainName y.cls = true) (hw : ws = Cond.codeWith y cc maxL ret hh :: ws') (hn : (lg_sl av).length ≤ maxL)
    (body : ∀ (p : Program) (e : Env) (s : State) (m : MethodId) (below : List Frame) (meth : Method) (c : Code) (A : Nat → Prop) (H : Heap), p.tables.exec = Jvm.exec → c.code = cc → meth.sig.returnType = ret → (∀ w ∈ ws, w.before av.toArray s = true) → s.vm.findClass y.cls = some m.cls → meth.locks = false → meth.name = y.name → c.maxLocals = maxL → va_A wc sz = A → (∀ q : Nat, s.heap.size ≤ q → A q) → s.heap.size = sz → va_P D gC wc H → gE D T s → va_D A wc → va_S A s.heap H [] → ∀ ls : Array Slot, lv_has ls maxL (lv_args 0 av) → gZ A s s.heap → c.exceptionTable.toList = tableOf hh → W p l e rm s m av.toArray below meth c H [] 0 0 (MQ below Qc av.toArray s mc ms (va_A wc sz)) (F0 m 0 ls [])) : Met l y ws rm (gPX D T wc sz av) Qc mc ms (va_A wc sz) := by
  refine va_MetW hy hw ?_
  intro p e s m args below meth c s₁ B hml hv
  obtain ⟨rfl, hsz, hP, hE, hD0, hZ⟩ := hv
  rw [lg_entry_eq]
  subst hsz
  have hts := atoms_spec (ws := ws) B.pre
  exact body p e s m below meth c _ s.heap B.exec B.bytes B.returns hts (findClass_of_methodNamed B.named) B.notSynchronized (name_of_methodNamed B.named B.method).1 hml rfl (fun q h => Or.inr h) rfl hP hE hD0.self va_S.rf _ (lv_entry av hn) hZ (vx_table (x := y) B (hts _ (by rw [hw]; exact List.mem_cons_self)))
end GB
section GR
variable {p : Program} {l : Launch} {e : Env} {R : Room} {s : State} {m : MethodId} {args : Array Value} {below : List Frame} {meth : Method} {c : Code} {H : Heap} {locs : List Loc} {cells slots : Nat} {Q : State → Prop}
variable {cc : ByteArray} {pc : Nat} {ls : Array Slot} {rest st0 : List Value} {D : va_G} {A : Nat → Prop} {T : List (ClassId × FieldType)} {ws wc wr : va_W} {H0 : Heap} {mc ms : Nat} {a : Array Value}
theorem gTop {x v : Int32} (h : x = v) (k : W p l e R s m args below meth c H locs cells slots Q (F0 m pc ls (.int v :: rest))) : W p l e R s m args below meth c H locs cells slots Q (F0 m pc ls (.int x :: rest)) := by rw [h]; exact k
theorem gTopL {x v : Int64} (h : x = v) (k : W p l e R s m args below meth c H locs cells slots Q (F0 m pc ls (.long v :: rest))) : W p l e R s m args below meth c H locs cells slots Q (F0 m pc ls (.long x :: rest)) := by rw [h]; exact k
theorem gTopV {x v : Value} (h : x = v) (k : W p l e R s m args below meth c H locs cells slots Q (F0 m pc ls (v :: rest))) : W p l e R s m args below meth c H locs cells slots Q (F0 m pc ls (x :: rest)) := by rw [h]; exact k
theorem gIn {i : Int32} {n : Nat} (h : decide (i < 0 ∨ n ≤ i.toNatClampNeg) = false) : vp_in i n := of_decide_eq_false h
theorem gUpd {f f' : Nat → Int32} {n : Nat} {aa : Nat} {q0 : Nat} {cA : ClassId} {H1 : Heap} (h : f = f') (hP : va_P D gC (ws.set q0 (aa, .inl (cA, n, .inl f))) H1) (hD : va_D A (ws.set q0 (aa, .inl (cA, n, .inl f)))) : va_P D gC (ws.set q0 (aa, .inl (cA, n, .inl f'))) H1 ∧ va_D A (ws.set q0 (aa, .inl (cA, n, .inl f'))) := by subst h; exact ⟨hP, hD⟩
theorem gUpdQ {f f' : Nat → Option Nat} {n : Nat} {aa : Nat} {q0 : Nat} {cA : ClassId} {H1 : Heap} (h : f = f') (hP : va_P D gC (ws.set q0 (aa, .inl (cA, n, .inr (.inr (.inr (.inr f)))))) H1) (hD : va_D A (ws.set q0 (aa, .inl (cA, n, .inr (.inr (.inr (.inr f))))))) : va_P D gC (ws.set q0 (aa, .inl (cA, n, .inr (.inr (.inr (.inr f')))))) H1 ∧ va_D A (ws.set q0 (aa, .inl (cA, n, .inr (.inr (.inr (.inr f')))))) := by subst h; exact ⟨hP, hD⟩
theorem gUpdL {f f' : Nat → Int64} {n : Nat} {aa : Nat} {q0 : Nat} {cA : ClassId} {H1 : Heap} (h : f = f') (hP : va_P D gC (ws.set q0 (aa, .inl (cA, n, .inr (.inl f)))) H1) (hD : va_D A (ws.set q0 (aa, .inl (cA, n, .inr (.inl f))))) : va_P D gC (ws.set q0 (aa, .inl (cA, n, .inr (.inl f')))) H1 ∧ va_D A (ws.set q0 (aa, .inl (cA, n, .inr (.inl f')))) := by subst h; exact ⟨hP, hD⟩
theorem gUplL {f : Nat → Int64} {i : Int32} {k : Nat} {x : Int64} (h : i.toNatClampNeg = k) : vp_updL f i.toNatClampNeg x = vp_updL f k x := by rw [h]
theorem gCpy0 {a b n : Nat} : va_cpy z0 z0 a b n = z0 := by funext j; simp [va_cpy]
theorem g_cmpr {x : Int64} : lg_cmp x x = 0 := by
  unfold lg_cmp
  rw [if_neg (Int64.lt_irrefl), if_pos rfl]
theorem g_le {x y : Int32} (h : ¬ x < y) : y ≤ x := by
  rw [Int32.lt_iff_toInt_lt] at h
  rw [Int32.le_iff_toInt_le]
  omega
theorem g_nle {x y : Int32} (h : x < y) : ¬ y ≤ x := by
  rw [Int32.lt_iff_toInt_lt] at h
  rw [Int32.le_iff_toInt_le]
  omega
theorem gUpd0 {k : Nat} : upd z0 k 0 = z0 := by funext j; simp [upd]
theorem gUpq {k : Nat} : va_up zq k none = zq := by funext j; simp [va_up]
theorem gUps {f : Nat → Int32} {i : Int32} {k : Nat} {x : Int32} (h : i.toNatClampNeg = k) : upd f i.toNatClampNeg x = upd f k x := by rw [h]
theorem gUps0 {i : Int32} : upd z0 i.toNatClampNeg 0 = z0 := gUpd0
theorem gUpqs {f : Nat → Option Nat} {i : Int32} {k : Nat} {x : Option Nat} (h : i.toNatClampNeg = k) : va_up f i.toNatClampNeg x = va_up f k x := by rw [h]
set_option maxHeartbeats 4000000 in
/-- newarray, its class known -/
theorem gNew (hx : p.tables.exec = Jvm.exec) (hb : c.code = cc) {atype : ArrayType} (harr : (Cond.arrayClass (newarray.typeOf atype)).before args s = true) {ty : FieldType} (hty : newarray.typeOf atype = ty) (hE : gE D T s) (t0 : Nat) {cA : ClassId} (ht : T[t0]? = some (cA, ty)) (hP : va_P D gC ws H) (hD : va_D A ws) (hS : va_S A H0 H locs) (hA : ∀ q, H0.size ≤ q → A q)
    {n : Int32} {N' : Nat} {a0 : vp_A} (ha : ∀ cA : ClassId, vp_cell cA a0 = arrV cA N' (fun _ => defaultValue ty)) (hn : ¬ n < 0) (hN : n.toNatClampNeg = N') (hbytes : N' * componentBytes ty ≤ 536870912) {k1 n1 : Nat} (hk : cells + 1 ≤ k1) (hn1 : slots + N' ≤ n1) (hk2 : k1 ≤ R.cells) (hn2 : n1 ≤ R.slots) (hdg : decode cc pc = .ok (.newarray atype, 2))
    (kk : ∀ (q : Nat) (H1 : Heap), va_P D gC (ws ++ [(q, .inl (cA, a0))]) H1 → va_D A (ws ++ [(q, .inl (cA, a0))]) → va_S A H0 H1 locs → W p l e R s m args below meth c H1 locs k1 n1 Q (F0 m (pc + 2) ls (.ref q :: rest))) : W p l e R s m args below meth c H locs cells slots Q (F0 m pc ls (.int n :: rest)) := by
  refine va_newa hx hb harr hty hE.1 hP hD hS hA ha hn hN hbytes (Nat.le_trans hk hk2) (Nat.le_trans hn1 hn2) hdg (fun q cB H1 hK1 hP1 hD1 hS1 => ?_)
  have h1 := (hK1.2 T.length (cB, ty) (by simp)).2
  have h2 := (hE.1.2 t0 (cA, ty) ht).2
  have e9 : cB = cA := g_ra h1 h2
  subst e9
  exact W.widen hk hn1 (kk q H1 hP1 hD1 hS1)
set_option maxHeartbeats 4000000 in
theorem gNewQ (hx : p.tables.exec = Jvm.exec) (hb : c.code = cc) {own C : String} {index : Nat} (hown : s.vm.findClass own = some m.cls) (hcl : (Cond.classLink own index C).before args s = true) (hov : va_AO C s) (hE : gE D T s) (t0 : Nat) {cA : ClassId} (ht : T[t0]? = some (cA, .object C)) (hP : va_P D gC ws H) (hD : va_D A ws) (hS : va_S A H0 H locs) (hA : ∀ q, H0.size ≤ q → A q)
    {n : Int32} {N' : Nat} (hn : ¬ n < 0) (hN : n.toNatClampNeg = N') (hbytes : N' * 4 ≤ 536870912) {k1 n1 : Nat} (hk : cells + 1 ≤ k1) (hn1 : slots + N' ≤ n1) (hk2 : k1 ≤ R.cells) (hn2 : n1 ≤ R.slots) (hdg : decode cc pc = .ok (.anewarray index, 3))
    (kk : ∀ (q : Nat) (H1 : Heap), va_P D gC (ws ++ [(q, aQ cA N' zq)]) H1 → va_D A (ws ++ [(q, aQ cA N' zq)]) → va_S A H0 H1 locs → W p l e R s m args below meth c H1 locs k1 n1 Q (F0 m (pc + 3) ls (.ref q :: rest))) : W p l e R s m args below meth c H locs cells slots Q (F0 m pc ls (.int n :: rest)) := by
  refine va_newq hx hb hown hcl hov hE.1 hP hD hS hA hn hN hbytes (Nat.le_trans hk hk2) (Nat.le_trans hn1 hn2) hdg (fun q cB H1 hK1 hP1 hD1 hS1 => ?_)
  have h1 := (hK1.2 T.length (cB, .object C) (by simp)).2
  have h2 := (hE.1.2 t0 (cA, .object C) ht).2
  have e9 : cB = cA := g_ra h1 h2
  subst e9
  exact W.widen hk hn1 (kk q H1 hP1 hD1 hS1)

set_option maxHeartbeats 4000000 in
/-- behind a call -/
theorem gRi {S : Type} {post : Int32 → S → Prop} {wo : S → va_W} (hr : va_Run p l e R s m args below meth c H locs cells slots mc ms (F0 m pc ls st0) rest (va_Qi post (gB D wo (va_A wc H.size)) (va_A wc H.size) a) (va_A wc H.size)) (hP : va_P D gC ws H) (hD : va_D A ws) (hS : va_S A H0 H locs) (hA : ∀ q, H0.size ≤ q → A q) (isC isR : List Nat) (hC : isC.map (fun i => ws[i]?) = wc.map some) (hR : isR.map (fun i => ws[i]?) = wr.map some) (hnR : va_nd isR = true) (hdis : ∀ i ∈ isR, i ∉ isC) {k1 n1 : Nat} (hk : cells + mc ≤ k1) (hn1 : slots + ms ≤ n1)
    (kk : ∀ (r : Int32) (u : S) (H1 : Heap) (locs1 : List Loc), post r u → va_P D gC (wr ++ wo u) H1 → va_D A (wr ++ wo u) → va_S A H0 H1 locs1 → W p l e R s m args below meth c H1 locs1 k1 n1 Q (F0 m (pc + 3) ls (.int r :: rest))) : W p l e R s m args below meth c H locs cells slots Q (F0 m pc ls st0) := by
  have hFc := va_free hD hS hA isC hC
  refine va_calli hr hS (fun q _ h => hFc q h) hFc (fun r u t H1 locs1 ht hvm hw hB hz hk9 hS1 => ?_)
  obtain ⟨hP1, hD1⟩ := hB
  rw [ht] at hP1
  obtain ⟨hP2, hD2⟩ := va_join hP hD isC isR hC hR hnR hdis hk9 hFc hP1 hD1
  exact W.widen hk hn1 (kk r u H1 locs1 hw hP2 hD2 hS1)
set_option maxHeartbeats 4000000 in
/-- behind a call -/
theorem gRl {S : Type} {post : Int64 → S → Prop} {wo : S → va_W} (hr : va_Run p l e R s m args below meth c H locs cells slots mc ms (F0 m pc ls st0) rest (va_Ql post (gB D wo (va_A wc H.size)) (va_A wc H.size) a) (va_A wc H.size)) (hP : va_P D gC ws H) (hD : va_D A ws) (hS : va_S A H0 H locs) (hA : ∀ q, H0.size ≤ q → A q) (isC isR : List Nat) (hC : isC.map (fun i => ws[i]?) = wc.map some) (hR : isR.map (fun i => ws[i]?) = wr.map some) (hnR : va_nd isR = true) (hdis : ∀ i ∈ isR, i ∉ isC) {k1 n1 : Nat} (hk : cells + mc ≤ k1) (hn1 : slots + ms ≤ n1)
    (kk : ∀ (r : Int64) (u : S) (H1 : Heap) (locs1 : List Loc), post r u → va_P D gC (wr ++ wo u) H1 → va_D A (wr ++ wo u) → va_S A H0 H1 locs1 → W p l e R s m args below meth c H1 locs1 k1 n1 Q (F0 m (pc + 3) ls (.long r :: rest))) : W p l e R s m args below meth c H locs cells slots Q (F0 m pc ls st0) := by
  have hFc := va_free hD hS hA isC hC
  refine va_calll hr hS (fun q _ h => hFc q h) hFc (fun r u t H1 locs1 ht hvm hw hB hz hk9 hS1 => ?_)
  obtain ⟨hP1, hD1⟩ := hB
  rw [ht] at hP1
  obtain ⟨hP2, hD2⟩ := va_join hP hD isC isR hC hR hnR hdis hk9 hFc hP1 hD1
  exact W.widen hk hn1 (kk r u H1 locs1 hw hP2 hD2 hS1)
set_option maxHeartbeats 4000000 in
/-- behind a call -/
theorem gRv {S : Type} {post : S → Prop} {wo : S → va_W} (hr : va_Run p l e R s m args below meth c H locs cells slots mc ms (F0 m pc ls st0) rest (va_Qv post (gB D wo (va_A wc H.size)) (va_A wc H.size) a) (va_A wc H.size)) (hP : va_P D gC ws H) (hD : va_D A ws) (hS : va_S A H0 H locs) (hA : ∀ q, H0.size ≤ q → A q) (isC isR : List Nat) (hC : isC.map (fun i => ws[i]?) = wc.map some) (hR : isR.map (fun i => ws[i]?) = wr.map some) (hnR : va_nd isR = true) (hdis : ∀ i ∈ isR, i ∉ isC) {k1 n1 : Nat} (hk : cells + mc ≤ k1) (hn1 : slots + ms ≤ n1)
    (kk : ∀  (u : S) (H1 : Heap) (locs1 : List Loc), post u → va_P D gC (wr ++ wo u) H1 → va_D A (wr ++ wo u) → va_S A H0 H1 locs1 → W p l e R s m args below meth c H1 locs1 k1 n1 Q (F0 m (pc + 3) ls (rest))) : W p l e R s m args below meth c H locs cells slots Q (F0 m pc ls st0) := by
  have hFc := va_free hD hS hA isC hC
  refine va_callv hr hS (fun q _ h => hFc q h) hFc (fun u t H1 locs1 ht hvm hw hB hz hk9 hS1 => ?_)
  obtain ⟨hP1, hD1⟩ := hB
  rw [ht] at hP1
  obtain ⟨hP2, hD2⟩ := va_join hP hD isC isR hC hR hnR hdis hk9 hFc hP1 hD1
  exact W.widen hk hn1 (kk u H1 locs1 hw hP2 hD2 hS1)
set_option maxHeartbeats 4000000 in
/-- behind a call -/
theorem gRq {S : Type} {post : Option Nat → S → Prop} {wo : S → va_W} (hr : va_Run p l e R s m args below meth c H locs cells slots mc ms (F0 m pc ls st0) rest (va_Qq post (gB D wo (va_A wc H.size)) (va_A wc H.size) a) (va_A wc H.size)) (hP : va_P D gC ws H) (hD : va_D A ws) (hS : va_S A H0 H locs) (hA : ∀ q, H0.size ≤ q → A q) (isC isR : List Nat) (hC : isC.map (fun i => ws[i]?) = wc.map some) (hR : isR.map (fun i => ws[i]?) = wr.map some) (hnR : va_nd isR = true) (hdis : ∀ i ∈ isR, i ∉ isC) {k1 n1 : Nat} (hk : cells + mc ≤ k1) (hn1 : slots + ms ≤ n1)
    (kk : ∀ (r : Option Nat) (u : S) (H1 : Heap) (locs1 : List Loc), post r u → va_P D gC (wr ++ wo u) H1 → va_D A (wr ++ wo u) → va_S A H0 H1 locs1 → W p l e R s m args below meth c H1 locs1 k1 n1 Q (F0 m (pc + 3) ls (va_rf r :: rest))) : W p l e R s m args below meth c H locs cells slots Q (F0 m pc ls st0) := by
  have hFc := va_free hD hS hA isC hC
  refine va_callq hr hS (fun q _ h => hFc q h) hFc (fun r u t H1 locs1 ht hvm hw hB hz hk9 hS1 => ?_)
  obtain ⟨hP1, hD1⟩ := hB
  rw [ht] at hP1
  obtain ⟨hP2, hD2⟩ := va_join hP hD isC isR hC hR hnR hdis hk9 hFc hP1 hD1
  exact W.widen hk hn1 (kk r u H1 locs1 hw hP2 hD2 hS1)
set_option maxHeartbeats 4000000 in
/-- behind a call that throws -/
theorem gRx {S : Type} {E0 : String} (hr : vx_Run p l e R s m args below meth c H locs cells slots mc ms (F0 m pc ls st0) rest (va_Qi (fun (_ : Int32) (_ : S) => False) (fun _ _ => True) (va_A wc H.size) a) (vx_X (fun _ : Unit => True) (fun E _ _ => E = E0) (va_A wc H.size)) (va_A wc H.size)) (hP : va_P D gC ws H) (hD : va_D A ws) (hS : va_S A H0 H locs) (hA : ∀ q, H0.size ≤ q → A q) (isC isR : List Nat) (hC : isC.map (fun i => ws[i]?) = wc.map some) (hR : isR.map (fun i => ws[i]?) = wr.map some) (hnR : va_nd isR = true) (hdis : ∀ i ∈ isR, i ∉ isC) {k1 n1 : Nat} (hk : cells + mc ≤ k1) (hn1 : slots + ms ≤ n1)
    (kk : ∀ (ce : Cell) (q9 : Addr) (H1 : Heap) (locs1 : List Loc), va_P D gC wr H1 → va_D A wr → va_S A H0 H1 locs1 → H1[q9]? = some ce → ce.vm = .none → s.vm.findClass E0 = some ce.cls → vx_W p l e R s m args below meth c H1 locs1 k1 n1 Q (F0 m pc ls rest) q9) : W p l e R s m args below meth c H locs cells slots Q (F0 m pc ls st0) := by
  have hFc := va_free hD hS hA isC hC
  refine vx_calli hr hS (fun q _ h => hFc q h) hFc (fun q _ h => hFc q h) (fun E ce q9 u t H1 locs1 ht hvm hw hB hz hk9 hS1 hce hcv hcl => ?_) (fun r u t H1 locs1 ht hvm hw => hw.elim)
  subst hB
  obtain ⟨hP2, hD2⟩ := va_join (w1 := []) hP hD isC isR hC hR hnR hdis hk9 hFc (fun k q h => by simp at h) ⟨fun i j p q h => by simp at h, fun k q h => by simp at h⟩
  rw [List.append_nil] at hP2 hD2
  exact vx_widen hk hn1 (kk ce q9 H1 locs1 hP2 hD2 hS1 hce hcv hcl)
set_option maxHeartbeats 4000000 in
theorem gRxl {S : Type} {E0 : String} (hr : vx_Run p l e R s m args below meth c H locs cells slots mc ms (F0 m pc ls st0) rest (va_Ql (fun (_ : Int64) (_ : S) => False) (fun _ _ => True) (va_A wc H.size) a) (vx_X (fun _ : Unit => True) (fun E _ _ => E = E0) (va_A wc H.size)) (va_A wc H.size)) (hP : va_P D gC ws H) (hD : va_D A ws) (hS : va_S A H0 H locs) (hA : ∀ q, H0.size ≤ q → A q) (isC isR : List Nat) (hC : isC.map (fun i => ws[i]?) = wc.map some) (hR : isR.map (fun i => ws[i]?) = wr.map some) (hnR : va_nd isR = true) (hdis : ∀ i ∈ isR, i ∉ isC) {k1 n1 : Nat} (hk : cells + mc ≤ k1) (hn1 : slots + ms ≤ n1)
    (kk : ∀ (ce : Cell) (q9 : Addr) (H1 : Heap) (locs1 : List Loc), va_P D gC wr H1 → va_D A wr → va_S A H0 H1 locs1 → H1[q9]? = some ce → ce.vm = .none → s.vm.findClass E0 = some ce.cls → vx_W p l e R s m args below meth c H1 locs1 k1 n1 Q (F0 m pc ls rest) q9) : W p l e R s m args below meth c H locs cells slots Q (F0 m pc ls st0) := by
  have hFc := va_free hD hS hA isC hC
  refine vx_calll hr hS (fun q _ h => hFc q h) hFc (fun q _ h => hFc q h) (fun E ce q9 u t H1 locs1 ht hvm hw hB hz hk9 hS1 hce hcv hcl => ?_) (fun r u t H1 locs1 ht hvm hw => hw.elim)
  subst hB
  obtain ⟨hP2, hD2⟩ := va_join (w1 := []) hP hD isC isR hC hR hnR hdis hk9 hFc (fun k q h => by simp at h) ⟨fun i j p q h => by simp at h, fun k q h => by simp at h⟩
  rw [List.append_nil] at hP2 hD2
  exact vx_widen hk hn1 (kk ce q9 H1 locs1 hP2 hD2 hS1 hce hcv hcl)
/-- ends -/
theorem gEi {S : Type} {post : Int32 → S → Prop} {wo : S → va_W} {sz : Nat} {ty : FieldType} (hx : p.tables.exec = Jvm.exec) (hb : c.code = cc) (hr : meth.sig.returnType = some ty) (hlocks : meth.locks = false) (hAe : va_A wc sz = A) (hP : va_P D gC ws H) (hD : va_D A ws) (hS : va_S A s.heap H locs) (u : S) (is : List Nat) (his : is.map (fun i => ws[i]?) = (wo u).map some) (hn : va_nd is = true) {x : Int32} (hnr : narrow ty (.int x) = .int x) (hp : post x u) (hc : cells ≤ mc) (hs : slots ≤ ms) (hdg : decode cc pc = .ok (.ireturn, 1)) : W p l e R s m args below meth c H locs cells slots (MQ below (va_Qi post (gB D wo (va_A wc sz)) (va_A wc sz)) args s mc ms (va_A wc sz)) (F0 m pc ls [.int x]) := by
  subst hAe
  refine W.widen hc hs ?_
  exact W.zret hx hb hr hnr (fun t ht hW => ⟨⟨x, u, rfl, hp, by rw [ht]; exact hP.sub is (g_fm his), hD.sub is hn his⟩, hS.F ht⟩) hS.2.2 hdg hlocks
theorem gEl {S : Type} {post : Int64 → S → Prop} {wo : S → va_W} {sz : Nat} (hx : p.tables.exec = Jvm.exec) (hb : c.code = cc) (hr : meth.sig.returnType = some .long) (hlocks : meth.locks = false) (hAe : va_A wc sz = A) (hP : va_P D gC ws H) (hD : va_D A ws) (hS : va_S A s.heap H locs) (u : S) (is : List Nat) (his : is.map (fun i => ws[i]?) = (wo u).map some) (hn : va_nd is = true) {x : Int64} (hp : post x u) (hc : cells ≤ mc) (hs : slots ≤ ms) (hdg : decode cc pc = .ok (.lreturn, 1)) : W p l e R s m args below meth c H locs cells slots (MQ below (va_Ql post (gB D wo (va_A wc sz)) (va_A wc sz)) args s mc ms (va_A wc sz)) (F0 m pc ls [.long x]) := by
  subst hAe
  refine W.widen hc hs ?_
  exact W.lret hx hb hr (fun t ht hW => ⟨⟨x, u, rfl, hp, by rw [ht]; exact hP.sub is (g_fm his), hD.sub is hn his⟩, hS.F ht⟩) hS.2.2 hdg hlocks
theorem gEv {S : Type} {post : S → Prop} {wo : S → va_W} {sz : Nat} (hx : p.tables.exec = Jvm.exec) (hb : c.code = cc) (hr : meth.sig.returnType = none) (hlocks : meth.locks = false) (hAe : va_A wc sz = A) (hP : va_P D gC ws H) (hD : va_D A ws) (hS : va_S A s.heap H locs) (u : S) (is : List Nat) (his : is.map (fun i => ws[i]?) = (wo u).map some) (hn : va_nd is = true) (hp : post u) (hc : cells ≤ mc) (hs : slots ≤ ms) (hdg : decode cc pc = .ok (.return_, 1)) : W p l e R s m args below meth c H locs cells slots (MQ below (va_Qv post (gB D wo (va_A wc sz)) (va_A wc sz)) args s mc ms (va_A wc sz)) (F0 m pc ls []) := by
  subst hAe
  refine W.widen hc hs ?_
  exact W.vret hx hb hr (fun t ht hW => ⟨⟨u, rfl, hp, by rw [ht]; exact hP.sub is (g_fm his), hD.sub is hn his⟩, hS.F ht⟩) hS.2.2 hdg hlocks
theorem gEq {S : Type} {post : Option Nat → S → Prop} {wo : S → va_W} {sz : Nat} {ty : FieldType} (hx : p.tables.exec = Jvm.exec) (hb : c.code = cc) (hr : meth.sig.returnType = some ty) (hty : (∃ n, ty = .object n) ∨ ∃ t, ty = .array t) (hlocks : meth.locks = false) (hAe : va_A wc sz = A) (hP : va_P D gC ws H) (hD : va_D A ws) (hS : va_S A s.heap H locs) (u : S) (is : List Nat) (his : is.map (fun i => ws[i]?) = (wo u).map some) (hn : va_nd is = true) {v : Value} (r : Option Nat) (hv : va_rf r = v) (hp : post r u) (hc : cells ≤ mc) (hs : slots ≤ ms) (hdg : decode cc pc = .ok (.areturn, 1)) : W p l e R s m args below meth c H locs cells slots (MQ below (va_Qq post (gB D wo (va_A wc sz)) (va_A wc sz)) args s mc ms (va_A wc sz)) (F0 m pc ls [v]) := by
  subst hAe
  subst hv
  refine W.widen hc hs ?_
  exact W.aret hx hb hr hty (va_rf_or r) (fun t ht hW => ⟨⟨r, u, rfl, hp, by rw [ht]; exact hP.sub is (g_fm his), hD.sub is hn his⟩, hS.F ht⟩) hS.2.2 hdg hlocks
set_option maxHeartbeats 4000000 in
/-- the loop of Arrays.fill -/
theorem gLfill (hx : p.tables.exec = Jvm.exec) (hb : c.code = cJ7_fill_53178) (hE : gE D T s) {cI : ClassId} (ht : T[0]? = some (cI, .int)) {aa N : Nat} {v : Int32} (hN : N < 2 ^ 31)
    (kk : ∀ (g : Nat → Int32) (H : Heap) (locs : List Loc), va_P D gC [(aa, aI cI N g)] H → va_D A [(aa, aI cI N g)] → va_S A H0 H locs → ∀ ls : Array Slot, lv_has ls 4 [(2, .int (nI N)), (3, .int (nI N)), (0, .ref aa), (1, .int v)] → W p l e R s m args below meth c H locs cells slots Q (F0 m 20 ls [])) :
    ∀ (n k : Nat), k + n = N → ∀ (g : Nat → Int32) (H : Heap) (locs : List Loc), va_P D gC [(aa, aI cI N g)] H → va_D A [(aa, aI cI N g)] → va_S A H0 H locs → ∀ ls : Array Slot, lv_has ls 4 [(2, .int (nI k)), (3, .int (nI N)), (0, .ref aa), (1, .int v)] → W p l e R s m args below meth c H locs cells slots Q (F0 m 5 ls []) := by
  intro n
  induction n with
  | zero =>
    intro k hk g H locs hP hD hS ls hl
    have e9 : k = N := by omega
    subst e9
    refine lv_iload_n hx hb dJ7_fill_53178_5 rfl (lv_at hl 0 rfl) ?_
    refine lv_iload_n hx hb dJ7_fill_53178_6 rfl (lv_at hl 1 rfl) ?_
    refine lv_icmp_ge (tgt := 20) hx hb dJ7_fill_53178_7 (by decide) (fun _ => ?_) (fun h9 => absurd (nI_le (Nat.le_refl _) hN) h9)
    exact kk g H locs hP hD hS ls hl
  | succ n ih =>
    intro k hk g H locs hP hD hS ls hl
    have hlt : k < N := by omega
    refine lv_iload_n hx hb dJ7_fill_53178_5 rfl (lv_at hl 0 rfl) ?_
    refine lv_iload_n hx hb dJ7_fill_53178_6 rfl (lv_at hl 1 rfl) ?_
    refine lv_icmp_ge (tgt := 20) hx hb dJ7_fill_53178_7 (by decide) (fun h9 => absurd h9 (nI_ge hlt hN)) (fun _ => ?_)
    refine lv_aload_n hx hb dJ7_fill_53178_10 rfl (lv_at hl 2 rfl) ?_
    refine lv_iload_n hx hb dJ7_fill_53178_11 rfl (lv_at hl 0 rfl) ?_
    refine lv_iload_n hx hb dJ7_fill_53178_12 rfl (lv_at hl 3 rfl) ?_
    refine va_iast hx hb hE.1 hP hD hS 0 0 rfl ht (vp_in_nI hlt hN) dJ7_fill_53178_13 (fun H locs hP hD hS => ?_)
    refine lv_iinc (v := nI (k + 1)) (lv' := [(2, .int (nI (k + 1))), (3, .int (nI N)), (0, .ref aa), (1, .int v)]) hx hb dJ7_fill_53178_14 hl (k := 0) rfl (nI_1 k) (by decide) rfl (fun ls hl => ?_)
    refine lv_goto (tgt := 5) hx hb dJ7_fill_53178_17 (by decide) ?_
    exact ih (k + 1) (by omega) _ H locs hP hD hS ls hl
set_option maxHeartbeats 4000000 in
/-- the loop of copies -/
theorem gLcopies {N n0 n1 : Nat} (hN : N < 2 ^ 31) (h0 : N ≤ n0) (h1 : N ≤ n1) (hx : p.tables.exec = Jvm.exec) (hb : c.code = cX10_copies) (hE : gE D T s) {cI : ClassId} (ht : T[0]? = some (cI, .int)) {aa ab : Nat} {f : Nat → Int32}
    (kk : ∀ (g : Nat → Int32) (H : Heap) (locs : List Loc), va_P D gC [(aa, aI cI n0 f), (ab, aI cI n1 g)] H → va_D A [(aa, aI cI n0 f), (ab, aI cI n1 g)] → va_S A H0 H locs → ∀ ls : Array Slot, lv_has ls 4 [(3, .int (nI N)), (2, .int (nI N)), (0, .ref aa), (1, .ref ab)] → W p l e R s m args below meth c H locs cells slots Q (F0 m 19 ls [])) :
    ∀ (n k : Nat), k + n = N → ∀ (g : Nat → Int32) (H : Heap) (locs : List Loc), va_P D gC [(aa, aI cI n0 f), (ab, aI cI n1 g)] H → va_D A [(aa, aI cI n0 f), (ab, aI cI n1 g)] → va_S A H0 H locs → ∀ ls : Array Slot, lv_has ls 4 [(3, .int (nI k)), (2, .int (nI N)), (0, .ref aa), (1, .ref ab)] → W p l e R s m args below meth c H locs cells slots Q (F0 m 2 ls []) := by
  intro n
  induction n with
  | zero =>
    intro k hk g H locs hP hD hS ls hl
    have e9 : k = N := by omega
    subst e9
    refine lv_iload_n hx hb dX10_copies_2 rfl (lv_at hl 0 rfl) ?_
    refine lv_iload_n hx hb dX10_copies_3 rfl (lv_at hl 1 rfl) ?_
    refine lv_icmp_ge (tgt := 19) hx hb dX10_copies_4 (by decide) (fun _ => ?_) (fun h9 => absurd (nI_le (Nat.le_refl _) hN) h9)
    exact kk g H locs hP hD hS ls hl
  | succ n ih =>
    intro k hk g H locs hP hD hS ls hl
    have hlt : k < N := by omega
    refine lv_iload_n hx hb dX10_copies_2 rfl (lv_at hl 0 rfl) ?_
    refine lv_iload_n hx hb dX10_copies_3 rfl (lv_at hl 1 rfl) ?_
    refine lv_icmp_ge (tgt := 19) hx hb dX10_copies_4 (by decide) (fun h9 => absurd h9 (nI_ge hlt hN)) (fun _ => ?_)
    refine lv_aload_n hx hb dX10_copies_7 rfl (lv_at hl 3 rfl) ?_
    refine lv_iload_n hx hb dX10_copies_8 rfl (lv_at hl 0 rfl) ?_
    refine lv_aload_n hx hb dX10_copies_9 rfl (lv_at hl 2 rfl) ?_
    refine lv_iload_n hx hb dX10_copies_10 rfl (lv_at hl 0 rfl) ?_
    have i0 : vp_in (nI k) n0 := by
      rw [vp_in_iff, nI_toInt (Nat.lt_trans hlt hN)]
      omega
    have i1 : vp_in (nI k) n1 := by
      rw [vp_in_iff, nI_toInt (Nat.lt_trans hlt hN)]
      omega
    refine va_iald hx hb hE.1 hP 0 0 rfl ht i0 dX10_copies_11 ?_
    refine va_iast hx hb hE.1 hP hD hS 1 0 rfl ht i1 dX10_copies_12 (fun H locs hP hD hS => ?_)
    refine lv_iinc (v := nI (k + 1)) (lv' := [(3, .int (nI (k + 1))), (2, .int (nI N)), (0, .ref aa), (1, .ref ab)]) hx hb dX10_copies_13 hl (k := 0) rfl (nI_1 k) (by decide) rfl (fun ls hl => ?_)
    refine lv_goto (tgt := 2) hx hb dX10_copies_16 (by decide) ?_
    exact ih (k + 1) (by omega) _ H locs hP hD hS ls hl
end GR
theorem gSt_own : ∀ q ∈ gSt, q.1 = RX9 := by decide +kernel
theorem gF_RX9_101 {D : va_G} {T : List (ClassId × FieldType)} {A : Array Value} {U : State} (h : gE D T U) : (Cond.fieldLinkNest RX9 101 RX0 "length" "I" RX9).before A U = true := va_Nw.use rfl (h.2.1 (RX9, 101, RX0, "length", "I", RX9) (List.mem_of_getElem? (i := 0) rfl))
theorem gF_RX9_214 {D : va_G} {T : List (ClassId × FieldType)} {A : Array Value} {U : State} (h : gE D T U) : (Cond.fieldLinkNest RX9 214 RX5 "count" "I" RX9).before A U = true := va_Nw.use rfl (h.2.1 (RX9, 214, RX5, "count", "I", RX9) (List.mem_of_getElem? (i := 1) rfl))
theorem gF_RX9_236 {D : va_G} {T : List (ClassId × FieldType)} {A : Array Value} {U : State} (h : gE D T U) : (Cond.fieldLinkNest RX9 236 RX8 "letters" "[C" RX9).before A U = true := va_Nw.use rfl (h.2.1 (RX9, 236, RX8, "letters", "[C", RX9) (List.mem_of_getElem? (i := 2) rfl))
theorem gF_RX9_84 {D : va_G} {T : List (ClassId × FieldType)} {A : Array Value} {U : State} (h : gE D T U) : (Cond.fieldLinkNest RX9 84 RX7 "directions" "I" RX9).before A U = true := va_Nw.use rfl (h.2.1 (RX9, 84, RX7, "directions", "I", RX9) (List.mem_of_getElem? (i := 3) rfl))
theorem gF_RX8_33 {D : va_G} {T : List (ClassId × FieldType)} {A : Array Value} {U : State} (h : gE D T U) : (Cond.fieldLinkNest RX8 33 RX7 "directions" "I" RX9).before A U = true := va_Nw.use rfl (h.2.1 (RX8, 33, RX7, "directions", "I", RX9) (List.mem_of_getElem? (i := 4) rfl))
theorem gF_RX5_53 {D : va_G} {T : List (ClassId × FieldType)} {A : Array Value} {U : State} (h : gE D T U) : (Cond.fieldLinkNest RX5 53 RX7 "directions" "I" RX9).before A U = true := va_Nw.use rfl (h.2.1 (RX5, 53, RX7, "directions", "I", RX9) (List.mem_of_getElem? (i := 5) rfl))
theorem gF_RX1_79 {D : va_G} {T : List (ClassId × FieldType)} {A : Array Value} {U : State} (h : gE D T U) : (Cond.fieldLinkNest RX1 79 RX7 "directions" "I" RX9).before A U = true := va_Nw.use rfl (h.2.1 (RX1, 79, RX7, "directions", "I", RX9) (List.mem_of_getElem? (i := 6) rfl))
theorem gF_RX5_26 {D : va_G} {T : List (ClassId × FieldType)} {A : Array Value} {U : State} (h : gE D T U) : (Cond.fieldLinkNest RX5 26 RX7 "segments" "I" RX9).before A U = true := va_Nw.use rfl (h.2.1 (RX5, 26, RX7, "segments", "I", RX9) (List.mem_of_getElem? (i := 7) rfl))
theorem gF_RX8_55 {D : va_G} {T : List (ClassId × FieldType)} {A : Array Value} {U : State} (h : gE D T U) : (Cond.fieldLinkNest RX8 55 RX7 "segments" "I" RX9).before A U = true := va_Nw.use rfl (h.2.1 (RX8, 55, RX7, "segments", "I", RX9) (List.mem_of_getElem? (i := 8) rfl))
theorem gF_RX9_141 {D : va_G} {T : List (ClassId × FieldType)} {A : Array Value} {U : State} (h : gE D T U) : (Cond.fieldLinkNest RX9 141 RX7 "segments" "I" RX9).before A U = true := va_Nw.use rfl (h.2.1 (RX9, 141, RX7, "segments", "I", RX9) (List.mem_of_getElem? (i := 9) rfl))
theorem gF_RX9_188 {D : va_G} {T : List (ClassId × FieldType)} {A : Array Value} {U : State} (h : gE D T U) : (Cond.fieldLinkNest RX9 188 RX7 "meetingPairs" "I" RX9).before A U = true := va_Nw.use rfl (h.2.1 (RX9, 188, RX7, "meetingPairs", "I", RX9) (List.mem_of_getElem? (i := 10) rfl))
theorem gF_RX9_191 {D : va_G} {T : List (ClassId × FieldType)} {A : Array Value} {U : State} (h : gE D T U) : (Cond.fieldLinkNest RX9 191 RX7 "crossingPairs" "I" RX9).before A U = true := va_Nw.use rfl (h.2.1 (RX9, 191, RX7, "crossingPairs", "I", RX9) (List.mem_of_getElem? (i := 11) rfl))
theorem gF_RX9_196 {D : va_G} {T : List (ClassId × FieldType)} {A : Array Value} {U : State} (h : gE D T U) : (Cond.fieldLinkNest RX9 196 RX7 "firstPair" "I" RX9).before A U = true := va_Nw.use rfl (h.2.1 (RX9, 196, RX7, "firstPair", "I", RX9) (List.mem_of_getElem? (i := 12) rfl))
theorem gF_RX9_80 {D : va_G} {T : List (ClassId × FieldType)} {A : Array Value} {U : State} (h : gE D T U) : (Cond.fieldLinkNest RX9 80 RX1 "track" "LExactTurtle$Track;" RX9).before A U = true := va_Nw.use rfl (h.2.1 (RX9, 80, RX1, "track", "LExactTurtle$Track;", RX9) (List.mem_of_getElem? (i := 13) rfl))
theorem gF_RX4_126 {D : va_G} {T : List (ClassId × FieldType)} {A : Array Value} {U : State} (h : gE D T U) : (Cond.fieldLinkNest RX4 126 RX1 "callCounts" "[I" RX9).before A U = true := va_Nw.use rfl (h.2.1 (RX4, 126, RX1, "callCounts", "[I", RX9) (List.mem_of_getElem? (i := 14) rfl))
theorem gF_RX9_255 {D : va_G} {T : List (ClassId × FieldType)} {A : Array Value} {U : State} (h : gE D T U) : (Cond.fieldLinkNest RX9 255 RX1 "callOrder" "[I" RX9).before A U = true := va_Nw.use rfl (h.2.1 (RX9, 255, RX1, "callOrder", "[I", RX9) (List.mem_of_getElem? (i := 15) rfl))
theorem gF_RX6_15 {D : va_G} {T : List (ClassId × FieldType)} {A : Array Value} {U : State} (h : gE D T U) : (Cond.fieldLinkNest RX6 15 RX1 "basics" "I" RX9).before A U = true := va_Nw.use rfl (h.2.1 (RX6, 15, RX1, "basics", "I", RX9) (List.mem_of_getElem? (i := 16) rfl))
theorem gF_RX4_107 {D : va_G} {T : List (ClassId × FieldType)} {A : Array Value} {U : State} (h : gE D T U) : (Cond.fieldLinkNest RX4 107 RX1 "basics" "I" RX9).before A U = true := va_Nw.use rfl (h.2.1 (RX4, 107, RX1, "basics", "I", RX9) (List.mem_of_getElem? (i := 17) rfl))
theorem gF_RX9_138 {D : va_G} {T : List (ClassId × FieldType)} {A : Array Value} {U : State} (h : gE D T U) : (Cond.fieldLinkNest RX9 138 RX1 "basics" "I" RX9).before A U = true := va_Nw.use rfl (h.2.1 (RX9, 138, RX1, "basics", "I", RX9) (List.mem_of_getElem? (i := 18) rfl))
theorem gF_RX9_250 {D : va_G} {T : List (ClassId × FieldType)} {A : Array Value} {U : State} (h : gE D T U) : (Cond.fieldLinkNest RX9 250 RX1 "namesCalled" "I" RX9).before A U = true := va_Nw.use rfl (h.2.1 (RX9, 250, RX1, "namesCalled", "I", RX9) (List.mem_of_getElem? (i := 19) rfl))
theorem gF_RX9_162 {D : va_G} {T : List (ClassId × FieldType)} {A : Array Value} {U : State} (h : gE D T U) : (Cond.fieldLinkNest RX9 162 RX1 "turned" "I" RX9).before A U = true := va_Nw.use rfl (h.2.1 (RX9, 162, RX1, "turned", "I", RX9) (List.mem_of_getElem? (i := 20) rfl))
theorem gF_RX4_39 {D : va_G} {T : List (ClassId × FieldType)} {A : Array Value} {U : State} (h : gE D T U) : (Cond.fieldLinkNest RX4 39 RX3 "size" "I" RX9).before A U = true := va_Nw.use rfl (h.2.1 (RX4, 39, RX3, "size", "I", RX9) (List.mem_of_getElem? (i := 21) rfl))
theorem gF_RX9_122 {D : va_G} {T : List (ClassId × FieldType)} {A : Array Value} {U : State} (h : gE D T U) : (Cond.fieldLinkNest RX9 122 RX3 "commands" "I" RX9).before A U = true := va_Nw.use rfl (h.2.1 (RX9, 122, RX3, "commands", "I", RX9) (List.mem_of_getElem? (i := 22) rfl))
theorem gM_RX9_9 {D : va_G} {T : List (ClassId × FieldType)} {U : State} (h : gE D T U) : va_Nw (.methodLinkNest RX9 9 yX0_init RX9) U := h.2.2.1 (RX9, 9, yX0_init, RX9) (List.mem_of_getElem? (i := 0) rfl)
theorem gM_RX9_18 {D : va_G} {T : List (ClassId × FieldType)} {U : State} (h : gE D T U) : va_Nw (.methodLinkNest RX9 18 yX2_init RX9) U := h.2.2.1 (RX9, 18, yX2_init, RX9) (List.mem_of_getElem? (i := 1) rfl)
theorem gM_RX9_25 {D : va_G} {T : List (ClassId × FieldType)} {U : State} (h : gE D T U) : va_Nw (.methodLinkNest RX9 25 yX4_init RX9) U := h.2.2.1 (RX9, 25, yX4_init, RX9) (List.mem_of_getElem? (i := 2) rfl)
theorem gM_RX9_32 {D : va_G} {T : List (ClassId × FieldType)} {U : State} (h : gE D T U) : va_Nw (.methodLinkNest RX9 32 yX5_init RX9) U := h.2.2.1 (RX9, 32, yX5_init, RX9) (List.mem_of_getElem? (i := 3) rfl)
theorem gM_RX9_39 {D : va_G} {T : List (ClassId × FieldType)} {U : State} (h : gE D T U) : va_Nw (.methodLinkNest RX9 39 yX8_init RX9) U := h.2.2.1 (RX9, 39, yX8_init, RX9) (List.mem_of_getElem? (i := 4) rfl)
theorem gM_RX9_46 {D : va_G} {T : List (ClassId × FieldType)} {U : State} (h : gE D T U) : va_Nw (.methodLinkNest RX9 46 yX6_init RX9) U := h.2.2.1 (RX9, 46, yX6_init, RX9) (List.mem_of_getElem? (i := 5) rfl)
theorem gM_RX9_61 {D : va_G} {T : List (ClassId × FieldType)} {U : State} (h : gE D T U) : va_Nw (.methodLinkNest RX9 61 yX1_init RX9) U := h.2.2.1 (RX9, 61, yX1_init, RX9) (List.mem_of_getElem? (i := 6) rfl)
theorem gM_RX1_11 {D : va_G} {T : List (ClassId × FieldType)} {U : State} (h : gE D T U) : va_Nw (.methodLinkNest RX1 11 yX7_init RX9) U := h.2.2.1 (RX1, 11, yX7_init, RX9) (List.mem_of_getElem? (i := 7) rfl)
theorem gM_RX1_82 {D : va_G} {T : List (ClassId × FieldType)} {U : State} (h : gE D T U) : va_Nw (.methodLinkNest RX1 82 yX9_wrap RX9) U := h.2.2.1 (RX1, 82, yX9_wrap, RX9) (List.mem_of_getElem? (i := 8) rfl)
theorem gM_RX7_58 {D : va_G} {T : List (ClassId × FieldType)} {U : State} (h : gE D T U) : va_Nw (.methodLinkNest RX7 58 yX9_signOf RX9) U := h.2.2.1 (RX7, 58, yX9_signOf, RX9) (List.mem_of_getElem? (i := 9) rfl)
theorem gM_RX0_60 {D : va_G} {T : List (ClassId × FieldType)} {U : State} (h : gE D T U) : va_Nw (.methodLinkNest RX0 60 yX9_nameIndex RX9) U := h.2.2.1 (RX0, 60, yX9_nameIndex, RX9) (List.mem_of_getElem? (i := 10) rfl)
theorem gM_RX4_65 {D : va_G} {T : List (ClassId × FieldType)} {U : State} (h : gE D T U) : va_Nw (.methodLinkNest RX4 65 yX9_nameIndex RX9) U := h.2.2.1 (RX4, 65, yX9_nameIndex, RX9) (List.mem_of_getElem? (i := 11) rfl)
theorem gM_RX7_40 {D : va_G} {T : List (ClassId × FieldType)} {U : State} (h : gE D T U) : va_Nw (.methodLinkNest RX7 40 yX9_movePart RX9) U := h.2.2.1 (RX7, 40, yX9_movePart, RX9) (List.mem_of_getElem? (i := 12) rfl)
theorem gM_RX5_31 {D : va_G} {T : List (ClassId × FieldType)} {U : State} (h : gE D T U) : va_Nw (.methodLinkNest RX5 31 yX9_wrap RX9) U := h.2.2.1 (RX5, 31, yX9_wrap, RX9) (List.mem_of_getElem? (i := 13) rfl)
theorem gM_RX8_51 {D : va_G} {T : List (ClassId × FieldType)} {U : State} (h : gE D T U) : va_Nw (.methodLinkNest RX8 51 yX9_movePart RX9) U := h.2.2.1 (RX8, 51, yX9_movePart, RX9) (List.mem_of_getElem? (i := 14) rfl)
theorem gM_RX8_47 {D : va_G} {T : List (ClassId × FieldType)} {U : State} (h : gE D T U) : va_Nw (.methodLinkNest RX8 47 yX9_wrap RX9) U := h.2.2.1 (RX8, 47, yX9_wrap, RX9) (List.mem_of_getElem? (i := 15) rfl)
theorem gM_RX1_90 {D : va_G} {T : List (ClassId × FieldType)} {U : State} (h : gE D T U) : va_Nw (.methodLinkNest RX1 90 yX9_digitsOf RX9) U := h.2.2.1 (RX1, 90, yX9_digitsOf, RX9) (List.mem_of_getElem? (i := 16) rfl)
theorem gM_RX6_47 {D : va_G} {T : List (ClassId × FieldType)} {U : State} (h : gE D T U) : va_Nw (.methodLinkNest RX6 47 yX9_digitsOf RX9) U := h.2.2.1 (RX6, 47, yX9_digitsOf, RX9) (List.mem_of_getElem? (i := 17) rfl)
theorem gS_RX9_75 {D : va_G} {T : List (ClassId × FieldType)} {U : State} (h : gE D T U) : ∃ a : Nat, vk_R RX9 75 "directions" a U := h.2.2.2.2.2.2 (RX9, 75, "directions") (List.mem_of_getElem? (i := 0) rfl)
theorem gS_RX9_98 {D : va_G} {T : List (ClassId × FieldType)} {U : State} (h : gE D T U) : ∃ a : Nat, vk_R RX9 98 "the buffer is full" a U := h.2.2.2.2.2.2 (RX9, 98, "the buffer is full") (List.mem_of_getElem? (i := 1) rfl)
theorem gS_RX9_108 {D : va_G} {T : List (ClassId × FieldType)} {U : State} (h : gE D T U) : ∃ a : Nat, vk_R RX9 108 "name" a U := h.2.2.2.2.2.2 (RX9, 108, "name") (List.mem_of_getElem? (i := 2) rfl)
theorem gS_RX9_146 {D : va_G} {T : List (ClassId × FieldType)} {U : State} (h : gE D T U) : ∃ a : Nat, vk_R RX9 146 "point or part" a U := h.2.2.2.2.2.2 (RX9, 146, "point or part") (List.mem_of_getElem? (i := 3) rfl)
theorem gS_RX9_153 {D : va_G} {T : List (ClassId × FieldType)} {U : State} (h : gE D T U) : ∃ a : Nat, vk_R RX9 153 "segment" a U := h.2.2.2.2.2.2 (RX9, 153, "segment") (List.mem_of_getElem? (i := 4) rfl)
theorem gS_RX9_171 {D : va_G} {T : List (ClassId × FieldType)} {U : State} (h : gE D T U) : ∃ a : Nat, vk_R RX9 171 "every execution leads further away" a U := h.2.2.2.2.2.2 (RX9, 171, "every execution leads further away") (List.mem_of_getElem? (i := 5) rfl)
theorem gS_RX9_177 {D : va_G} {T : List (ClassId × FieldType)} {U : State} (h : gE D T U) : ∃ a : Nat, vk_R RX9 177 "part" a U := h.2.2.2.2.2.2 (RX9, 177, "part") (List.mem_of_getElem? (i := 6) rfl)
theorem gS_RX9_179 {D : va_G} {T : List (ClassId × FieldType)} {U : State} (h : gE D T U) : ∃ a : Nat, vk_R RX9 179 "the track is not closed" a U := h.2.2.2.2.2.2 (RX9, 179, "the track is not closed") (List.mem_of_getElem? (i := 7) rfl)
theorem gS_RX9_194 {D : va_G} {T : List (ClassId × FieldType)} {U : State} (h : gE D T U) : ∃ a : Nat, vk_R RX9 194 "no segments meet" a U := h.2.2.2.2.2.2 (RX9, 194, "no segments meet") (List.mem_of_getElem? (i := 8) rfl)
theorem gS_RX9_199 {D : va_G} {T : List (ClassId × FieldType)} {U : State} (h : gE D T U) : ∃ a : Nat, vk_R RX9 199 "side or part" a U := h.2.2.2.2.2.2 (RX9, 199, "side or part") (List.mem_of_getElem? (i := 9) rfl)
theorem gS_RX9_208 {D : va_G} {T : List (ClassId × FieldType)} {U : State} (h : gE D T U) : ∃ a : Nat, vk_R RX9 208 "the track is not smooth" a U := h.2.2.2.2.2.2 (RX9, 208, "the track is not smooth") (List.mem_of_getElem? (i := 10) rfl)
theorem gS_RX9_220 {D : va_G} {T : List (ClassId × FieldType)} {U : State} (h : gE D T U) : ∃ a : Nat, vk_R RX9 220 "the track is not smooth or has no corner" a U := h.2.2.2.2.2.2 (RX9, 220, "the track is not smooth or has no corner") (List.mem_of_getElem? (i := 11) rfl)
theorem gS_RX9_228 {D : va_G} {T : List (ClassId × FieldType)} {U : State} (h : gE D T U) : ∃ a : Nat, vk_R RX9 228 "limit" a U := h.2.2.2.2.2.2 (RX9, 228, "limit") (List.mem_of_getElem? (i := 12) rfl)
theorem gS_RX9_234 {D : va_G} {T : List (ClassId × FieldType)} {U : State} (h : gE D T U) : ∃ a : Nat, vk_R RX9 234 "no walk within the limit" a U := h.2.2.2.2.2.2 (RX9, 234, "no walk within the limit") (List.mem_of_getElem? (i := 13) rfl)
theorem gS_RX9_242 {D : va_G} {T : List (ClassId × FieldType)} {U : State} (h : gE D T U) : ∃ a : Nat, vk_R RX9 242 "place" a U := h.2.2.2.2.2.2 (RX9, 242, "place") (List.mem_of_getElem? (i := 14) rfl)
theorem gS_RX9_244 {D : va_G} {T : List (ClassId × FieldType)} {U : State} (h : gE D T U) : ∃ a : Nat, vk_R RX9 244 "too many basic commands" a U := h.2.2.2.2.2.2 (RX9, 244, "too many basic commands") (List.mem_of_getElem? (i := 15) rfl)
theorem gS_RX9_253 {D : va_G} {T : List (ClassId × FieldType)} {U : State} (h : gE D T U) : ∃ a : Nat, vk_R RX9 253 "index" a U := h.2.2.2.2.2.2 (RX9, 253, "index") (List.mem_of_getElem? (i := 16) rfl)
theorem gS_RX9_261 {D : va_G} {T : List (ClassId × FieldType)} {U : State} (h : gE D T U) : ∃ a : Nat, vk_R RX9 261 "size" a U := h.2.2.2.2.2.2 (RX9, 261, "size") (List.mem_of_getElem? (i := 17) rfl)
theorem gS_RX9_278 {D : va_G} {T : List (ClassId × FieldType)} {U : State} (h : gE D T U) : ∃ a : Nat, vk_R RX9 278 "nothing was saved" a U := h.2.2.2.2.2.2 (RX9, 278, "nothing was saved") (List.mem_of_getElem? (i := 18) rfl)

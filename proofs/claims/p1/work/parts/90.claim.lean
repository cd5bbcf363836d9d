set_option maxHeartbeats 8000000 in
set_option maxRecDepth 100000 in
/-- three ints: the switch -/
theorem law_go {p : Program} {e : Env} {s : State} {m : MethodId} {below : List Frame} {meth : Method} {c : Code} (l : Launch) (hst : l.stackTraces = false) (D : va_G) (cI cC cZ cP cL : ClassId) {b : Nat} {xs : Nat → Int32} (C0 : lw_At p s m meth c b 3 xs) (hE : gE D (gT cI cC cZ cP cL) s) (hZ : gZ (fun q : Nat => s.heap.size ≤ q) s s.heap) (q_74 q_46 q_1 q_2 q_8 q_11 q_16 q_19 q_22 q_24 q_25 q_26 q_36 q_3 q_4 q_5 q_6 q_7 q_9 q_10 q_12 q_13 q_14 q_15 q_17 q_18 q_20 q_21 q_23 q_27 q_32 q_33 q_34 q_35 q_28 q_29 q_30 q_31 q_37 q_42 q_43 q_44 q_45 q_38 q_39 q_40 q_41 q_47 q_48 q_49 q_50 q_51 q_52 q_53 q_54 q_55 q_56 q_57 q_58 q_59 q_60 q_61 q_62 q_63 q_64 q_65 q_66 q_67 q_68 q_69 q_70 q_71 q_72 q_73 : Nat) (H : Heap) (locs : List Loc) (hP : va_P D gC (gW0 cI cC cZ cP cL q_74 q_46 q_1 q_2 q_8 q_11 q_16 q_19 q_22 q_24 q_25 q_26 q_36 q_3 q_4 q_5 q_6 q_7 q_9 q_10 q_12 q_13 q_14 q_15 q_17 q_18 q_20 q_21 q_23 q_27 q_32 q_33 q_34 q_35 q_28 q_29 q_30 q_31 q_37 q_42 q_43 q_44 q_45 q_38 q_39 q_40 q_41 q_47 q_48 q_49 q_50 q_51 q_52 q_53 q_54 q_55 q_56 q_57 q_58 q_59 q_60 q_61 q_62 q_63 q_64 q_65 q_66 q_67 q_68 q_69 q_70 q_71 q_72 q_73) H) (hD : va_D (fun q : Nat => s.heap.size ≤ q) (gW0 cI cC cZ cP cL q_74 q_46 q_1 q_2 q_8 q_11 q_16 q_19 q_22 q_24 q_25 q_26 q_36 q_3 q_4 q_5 q_6 q_7 q_9 q_10 q_12 q_13 q_14 q_15 q_17 q_18 q_20 q_21 q_23 q_27 q_32 q_33 q_34 q_35 q_28 q_29 q_30 q_31 q_37 q_42 q_43 q_44 q_45 q_38 q_39 q_40 q_41 q_47 q_48 q_49 q_50 q_51 q_52 q_53 q_54 q_55 q_56 q_57 q_58 q_59 q_60 q_61 q_62 q_63 q_64 q_65 q_66 q_67 q_68 q_69 q_70 q_71 q_72 q_73)) (hS : va_S (fun q : Nat => s.heap.size ≤ q) s.heap H locs) (ls : Array Slot) (hl : lv_has ls 8 [(4, .int 0), (3, .ref q_74), (2, .ref q_46), (1, .ref q_1), (0, .ref b)]) : W p l e room_1 s m #[Value.ref b] below meth c H locs 74 18792 (lw_Z below #[Value.ref b] s) (F0 m 23 ls []) := by
  obtain ⟨hx, hb, hr, hml, hown, hts0, hX, hbl, hlocks, hgv⟩ := id C0
  have hbA : ¬ (fun q : Nat => s.heap.size ≤ q) b := Nat.not_le.mpr hbl
  refine lv_iload hx hb dL_law_23 (lv_at hl 0 rfl) ?_
  refine lv_aload_n hx hb dL_law_25 rfl (lv_at hl 4 rfl) ?_
  refine va_slen hx hb hX hbl hbA hS dL_law_26 ?_
  refine gTop (v := 3) rfl ?_
  refine lv_iconst (v := 3) hx hb dL_law_27 (by decide) ?_
  refine lv_isub hx hb dL_law_28 ?_
  refine gTop (v := 0) (by decide +kernel) ?_
  refine lv_icmp_gt (tgt := 1391) hx hb dL_law_29 (by decide) (fun h9 => absurd h9 (by decide +kernel)) (fun _ => ?_)
  refine lv_aload_n hx hb dL_law_32 rfl (lv_at hl 4 rfl) ?_
  refine lv_iload hx hb dL_law_33 (lv_at hl 0 rfl) ?_
  refine va_sld hx hb hX hbl hbA hS (gIn (by decide +kernel)) dL_law_35 ?_
  refine gTop (v := xs 0) (congrArg xs (by decide +kernel)) ?_
  refine lv_bipush (v := 31) hx hb dL_law_36 (by decide) ?_
  refine lv_iand hx hb dL_law_38 ?_
  obtain ⟨j, hj, ej⟩ := pk_andE (xs 0) (m := 31) 5 (by decide +kernel)
  refine gTop (v := nI j) ej ?_
  have hl9 := lv_sub hl [0, 1, 2, 3, 4] (l' := [(4, .int 0), (3, .ref q_74), (2, .ref q_46), (1, .ref q_1), (0, .ref b)]) rfl
  have hj : j < 32 := hj
  obtain rfl | rfl | rfl | rfl | rfl | rfl | rfl | rfl | rfl | rfl | rfl | rfl | rfl | rfl | rfl | rfl | rfl | rfl | rfl | rfl | rfl | rfl | rfl | rfl | rfl | rfl | rfl | rfl | rfl | rfl | rfl | rfl : j = 0 ∨ j = 1 ∨ j = 2 ∨ j = 3 ∨ j = 4 ∨ j = 5 ∨ j = 6 ∨ j = 7 ∨ j = 8 ∨ j = 9 ∨ j = 10 ∨ j = 11 ∨ j = 12 ∨ j = 13 ∨ j = 14 ∨ j = 15 ∨ j = 16 ∨ j = 17 ∨ j = 18 ∨ j = 19 ∨ j = 20 ∨ j = 21 ∨ j = 22 ∨ j = 23 ∨ j = 24 ∨ j = 25 ∨ j = 26 ∨ j = 27 ∨ j = 28 ∨ j = 29 ∨ j = 30 ∨ j = 31 := by omega
  · refine lv_tableIn (off := 129) (tgt := 168) hx hb dL_law_39 (by decide +kernel) (by decide +kernel) (by decide +kernel) (by decide) ?_
    exact lawc_0 l hst D cI cC cZ cP cL C0 hE hZ q_74 q_46 q_1 q_2 q_8 q_11 q_16 q_19 q_22 q_24 q_25 q_26 q_36 q_3 q_4 q_5 q_6 q_7 q_9 q_10 q_12 q_13 q_14 q_15 q_17 q_18 q_20 q_21 q_23 q_27 q_32 q_33 q_34 q_35 q_28 q_29 q_30 q_31 q_37 q_42 q_43 q_44 q_45 q_38 q_39 q_40 q_41 q_47 q_48 q_49 q_50 q_51 q_52 q_53 q_54 q_55 q_56 q_57 q_58 q_59 q_60 q_61 q_62 q_63 q_64 q_65 q_66 q_67 q_68 q_69 q_70 q_71 q_72 q_73 H locs hP hD hS ls hl9
  · refine lv_tableIn (off := 185) (tgt := 224) hx hb dL_law_39 (by decide +kernel) (by decide +kernel) (by decide +kernel) (by decide) ?_
    exact lawc_1 l hst D cI cC cZ cP cL C0 hE hZ q_74 q_46 q_1 q_2 q_8 q_11 q_16 q_19 q_22 q_24 q_25 q_26 q_36 q_3 q_4 q_5 q_6 q_7 q_9 q_10 q_12 q_13 q_14 q_15 q_17 q_18 q_20 q_21 q_23 q_27 q_32 q_33 q_34 q_35 q_28 q_29 q_30 q_31 q_37 q_42 q_43 q_44 q_45 q_38 q_39 q_40 q_41 q_47 q_48 q_49 q_50 q_51 q_52 q_53 q_54 q_55 q_56 q_57 q_58 q_59 q_60 q_61 q_62 q_63 q_64 q_65 q_66 q_67 q_68 q_69 q_70 q_71 q_72 q_73 H locs hP hD hS ls hl9
  · refine lv_tableIn (off := 243) (tgt := 282) hx hb dL_law_39 (by decide +kernel) (by decide +kernel) (by decide +kernel) (by decide) ?_
    exact lawc_2 l hst D cI cC cZ cP cL C0 hE hZ q_74 q_46 q_1 q_2 q_8 q_11 q_16 q_19 q_22 q_24 q_25 q_26 q_36 q_3 q_4 q_5 q_6 q_7 q_9 q_10 q_12 q_13 q_14 q_15 q_17 q_18 q_20 q_21 q_23 q_27 q_32 q_33 q_34 q_35 q_28 q_29 q_30 q_31 q_37 q_42 q_43 q_44 q_45 q_38 q_39 q_40 q_41 q_47 q_48 q_49 q_50 q_51 q_52 q_53 q_54 q_55 q_56 q_57 q_58 q_59 q_60 q_61 q_62 q_63 q_64 q_65 q_66 q_67 q_68 q_69 q_70 q_71 q_72 q_73 H locs hP hD hS ls hl9
  · refine lv_tableIn (off := 301) (tgt := 340) hx hb dL_law_39 (by decide +kernel) (by decide +kernel) (by decide +kernel) (by decide) ?_
    exact lawc_3 l hst D cI cC cZ cP cL C0 hE hZ q_74 q_46 q_1 q_2 q_8 q_11 q_16 q_19 q_22 q_24 q_25 q_26 q_36 q_3 q_4 q_5 q_6 q_7 q_9 q_10 q_12 q_13 q_14 q_15 q_17 q_18 q_20 q_21 q_23 q_27 q_32 q_33 q_34 q_35 q_28 q_29 q_30 q_31 q_37 q_42 q_43 q_44 q_45 q_38 q_39 q_40 q_41 q_47 q_48 q_49 q_50 q_51 q_52 q_53 q_54 q_55 q_56 q_57 q_58 q_59 q_60 q_61 q_62 q_63 q_64 q_65 q_66 q_67 q_68 q_69 q_70 q_71 q_72 q_73 H locs hP hD hS ls hl9
  · refine lv_tableIn (off := 366) (tgt := 405) hx hb dL_law_39 (by decide +kernel) (by decide +kernel) (by decide +kernel) (by decide) ?_
    exact lawc_4 l hst D cI cC cZ cP cL C0 hE hZ q_74 q_46 q_1 q_2 q_8 q_11 q_16 q_19 q_22 q_24 q_25 q_26 q_36 q_3 q_4 q_5 q_6 q_7 q_9 q_10 q_12 q_13 q_14 q_15 q_17 q_18 q_20 q_21 q_23 q_27 q_32 q_33 q_34 q_35 q_28 q_29 q_30 q_31 q_37 q_42 q_43 q_44 q_45 q_38 q_39 q_40 q_41 q_47 q_48 q_49 q_50 q_51 q_52 q_53 q_54 q_55 q_56 q_57 q_58 q_59 q_60 q_61 q_62 q_63 q_64 q_65 q_66 q_67 q_68 q_69 q_70 q_71 q_72 q_73 H locs hP hD hS ls hl9
  · refine lv_tableIn (off := 410) (tgt := 449) hx hb dL_law_39 (by decide +kernel) (by decide +kernel) (by decide +kernel) (by decide) ?_
    exact lawc_5 l hst D cI cC cZ cP cL C0 hE hZ q_74 q_46 q_1 q_2 q_8 q_11 q_16 q_19 q_22 q_24 q_25 q_26 q_36 q_3 q_4 q_5 q_6 q_7 q_9 q_10 q_12 q_13 q_14 q_15 q_17 q_18 q_20 q_21 q_23 q_27 q_32 q_33 q_34 q_35 q_28 q_29 q_30 q_31 q_37 q_42 q_43 q_44 q_45 q_38 q_39 q_40 q_41 q_47 q_48 q_49 q_50 q_51 q_52 q_53 q_54 q_55 q_56 q_57 q_58 q_59 q_60 q_61 q_62 q_63 q_64 q_65 q_66 q_67 q_68 q_69 q_70 q_71 q_72 q_73 H locs hP hD hS ls hl9
  · refine lv_tableIn (off := 478) (tgt := 517) hx hb dL_law_39 (by decide +kernel) (by decide +kernel) (by decide +kernel) (by decide) ?_
    exact lawc_6 l hst D cI cC cZ cP cL C0 hE hZ q_74 q_46 q_1 q_2 q_8 q_11 q_16 q_19 q_22 q_24 q_25 q_26 q_36 q_3 q_4 q_5 q_6 q_7 q_9 q_10 q_12 q_13 q_14 q_15 q_17 q_18 q_20 q_21 q_23 q_27 q_32 q_33 q_34 q_35 q_28 q_29 q_30 q_31 q_37 q_42 q_43 q_44 q_45 q_38 q_39 q_40 q_41 q_47 q_48 q_49 q_50 q_51 q_52 q_53 q_54 q_55 q_56 q_57 q_58 q_59 q_60 q_61 q_62 q_63 q_64 q_65 q_66 q_67 q_68 q_69 q_70 q_71 q_72 q_73 H locs hP hD hS ls hl9
  · refine lv_tableIn (off := 491) (tgt := 530) hx hb dL_law_39 (by decide +kernel) (by decide +kernel) (by decide +kernel) (by decide) ?_
    exact lawc_7 l hst D cI cC cZ cP cL C0 hE hZ q_74 q_46 q_1 q_2 q_8 q_11 q_16 q_19 q_22 q_24 q_25 q_26 q_36 q_3 q_4 q_5 q_6 q_7 q_9 q_10 q_12 q_13 q_14 q_15 q_17 q_18 q_20 q_21 q_23 q_27 q_32 q_33 q_34 q_35 q_28 q_29 q_30 q_31 q_37 q_42 q_43 q_44 q_45 q_38 q_39 q_40 q_41 q_47 q_48 q_49 q_50 q_51 q_52 q_53 q_54 q_55 q_56 q_57 q_58 q_59 q_60 q_61 q_62 q_63 q_64 q_65 q_66 q_67 q_68 q_69 q_70 q_71 q_72 q_73 H locs hP hD hS ls hl9
  · refine lv_tableIn (off := 554) (tgt := 593) hx hb dL_law_39 (by decide +kernel) (by decide +kernel) (by decide +kernel) (by decide) ?_
    exact lawc_8 l hst D cI cC cZ cP cL C0 hE hZ q_74 q_46 q_1 q_2 q_8 q_11 q_16 q_19 q_22 q_24 q_25 q_26 q_36 q_3 q_4 q_5 q_6 q_7 q_9 q_10 q_12 q_13 q_14 q_15 q_17 q_18 q_20 q_21 q_23 q_27 q_32 q_33 q_34 q_35 q_28 q_29 q_30 q_31 q_37 q_42 q_43 q_44 q_45 q_38 q_39 q_40 q_41 q_47 q_48 q_49 q_50 q_51 q_52 q_53 q_54 q_55 q_56 q_57 q_58 q_59 q_60 q_61 q_62 q_63 q_64 q_65 q_66 q_67 q_68 q_69 q_70 q_71 q_72 q_73 H locs hP hD hS ls hl9
  · refine lv_tableIn (off := 567) (tgt := 606) hx hb dL_law_39 (by decide +kernel) (by decide +kernel) (by decide +kernel) (by decide) ?_
    exact lawc_9 l hst D cI cC cZ cP cL C0 hE hZ q_74 q_46 q_1 q_2 q_8 q_11 q_16 q_19 q_22 q_24 q_25 q_26 q_36 q_3 q_4 q_5 q_6 q_7 q_9 q_10 q_12 q_13 q_14 q_15 q_17 q_18 q_20 q_21 q_23 q_27 q_32 q_33 q_34 q_35 q_28 q_29 q_30 q_31 q_37 q_42 q_43 q_44 q_45 q_38 q_39 q_40 q_41 q_47 q_48 q_49 q_50 q_51 q_52 q_53 q_54 q_55 q_56 q_57 q_58 q_59 q_60 q_61 q_62 q_63 q_64 q_65 q_66 q_67 q_68 q_69 q_70 q_71 q_72 q_73 H locs hP hD hS ls hl9
  · refine lv_tableIn (off := 580) (tgt := 619) hx hb dL_law_39 (by decide +kernel) (by decide +kernel) (by decide +kernel) (by decide) ?_
    exact lawc_10 l hst D cI cC cZ cP cL C0 hE hZ q_74 q_46 q_1 q_2 q_8 q_11 q_16 q_19 q_22 q_24 q_25 q_26 q_36 q_3 q_4 q_5 q_6 q_7 q_9 q_10 q_12 q_13 q_14 q_15 q_17 q_18 q_20 q_21 q_23 q_27 q_32 q_33 q_34 q_35 q_28 q_29 q_30 q_31 q_37 q_42 q_43 q_44 q_45 q_38 q_39 q_40 q_41 q_47 q_48 q_49 q_50 q_51 q_52 q_53 q_54 q_55 q_56 q_57 q_58 q_59 q_60 q_61 q_62 q_63 q_64 q_65 q_66 q_67 q_68 q_69 q_70 q_71 q_72 q_73 H locs hP hD hS ls hl9
  · refine lv_tableIn (off := 593) (tgt := 632) hx hb dL_law_39 (by decide +kernel) (by decide +kernel) (by decide +kernel) (by decide) ?_
    exact lawc_11 l hst D cI cC cZ cP cL C0 hE hZ q_74 q_46 q_1 q_2 q_8 q_11 q_16 q_19 q_22 q_24 q_25 q_26 q_36 q_3 q_4 q_5 q_6 q_7 q_9 q_10 q_12 q_13 q_14 q_15 q_17 q_18 q_20 q_21 q_23 q_27 q_32 q_33 q_34 q_35 q_28 q_29 q_30 q_31 q_37 q_42 q_43 q_44 q_45 q_38 q_39 q_40 q_41 q_47 q_48 q_49 q_50 q_51 q_52 q_53 q_54 q_55 q_56 q_57 q_58 q_59 q_60 q_61 q_62 q_63 q_64 q_65 q_66 q_67 q_68 q_69 q_70 q_71 q_72 q_73 H locs hP hD hS ls hl9
  · refine lv_tableIn (off := 637) (tgt := 676) hx hb dL_law_39 (by decide +kernel) (by decide +kernel) (by decide +kernel) (by decide) ?_
    exact lawc_12 l hst D cI cC cZ cP cL C0 hE hZ q_74 q_46 q_1 q_2 q_8 q_11 q_16 q_19 q_22 q_24 q_25 q_26 q_36 q_3 q_4 q_5 q_6 q_7 q_9 q_10 q_12 q_13 q_14 q_15 q_17 q_18 q_20 q_21 q_23 q_27 q_32 q_33 q_34 q_35 q_28 q_29 q_30 q_31 q_37 q_42 q_43 q_44 q_45 q_38 q_39 q_40 q_41 q_47 q_48 q_49 q_50 q_51 q_52 q_53 q_54 q_55 q_56 q_57 q_58 q_59 q_60 q_61 q_62 q_63 q_64 q_65 q_66 q_67 q_68 q_69 q_70 q_71 q_72 q_73 H locs hP hD hS ls hl9
  · refine lv_tableIn (off := 692) (tgt := 731) hx hb dL_law_39 (by decide +kernel) (by decide +kernel) (by decide +kernel) (by decide) ?_
    exact lawc_13 l hst D cI cC cZ cP cL C0 hE hZ q_74 q_46 q_1 q_2 q_8 q_11 q_16 q_19 q_22 q_24 q_25 q_26 q_36 q_3 q_4 q_5 q_6 q_7 q_9 q_10 q_12 q_13 q_14 q_15 q_17 q_18 q_20 q_21 q_23 q_27 q_32 q_33 q_34 q_35 q_28 q_29 q_30 q_31 q_37 q_42 q_43 q_44 q_45 q_38 q_39 q_40 q_41 q_47 q_48 q_49 q_50 q_51 q_52 q_53 q_54 q_55 q_56 q_57 q_58 q_59 q_60 q_61 q_62 q_63 q_64 q_65 q_66 q_67 q_68 q_69 q_70 q_71 q_72 q_73 H locs hP hD hS ls hl9
  · refine lv_tableIn (off := 705) (tgt := 744) hx hb dL_law_39 (by decide +kernel) (by decide +kernel) (by decide +kernel) (by decide) ?_
    exact lawc_14 l hst D cI cC cZ cP cL C0 hE hZ q_74 q_46 q_1 q_2 q_8 q_11 q_16 q_19 q_22 q_24 q_25 q_26 q_36 q_3 q_4 q_5 q_6 q_7 q_9 q_10 q_12 q_13 q_14 q_15 q_17 q_18 q_20 q_21 q_23 q_27 q_32 q_33 q_34 q_35 q_28 q_29 q_30 q_31 q_37 q_42 q_43 q_44 q_45 q_38 q_39 q_40 q_41 q_47 q_48 q_49 q_50 q_51 q_52 q_53 q_54 q_55 q_56 q_57 q_58 q_59 q_60 q_61 q_62 q_63 q_64 q_65 q_66 q_67 q_68 q_69 q_70 q_71 q_72 q_73 H locs hP hD hS ls hl9
  · refine lv_tableIn (off := 718) (tgt := 757) hx hb dL_law_39 (by decide +kernel) (by decide +kernel) (by decide +kernel) (by decide) ?_
    exact lawc_15 l hst D cI cC cZ cP cL C0 hE hZ q_74 q_46 q_1 q_2 q_8 q_11 q_16 q_19 q_22 q_24 q_25 q_26 q_36 q_3 q_4 q_5 q_6 q_7 q_9 q_10 q_12 q_13 q_14 q_15 q_17 q_18 q_20 q_21 q_23 q_27 q_32 q_33 q_34 q_35 q_28 q_29 q_30 q_31 q_37 q_42 q_43 q_44 q_45 q_38 q_39 q_40 q_41 q_47 q_48 q_49 q_50 q_51 q_52 q_53 q_54 q_55 q_56 q_57 q_58 q_59 q_60 q_61 q_62 q_63 q_64 q_65 q_66 q_67 q_68 q_69 q_70 q_71 q_72 q_73 H locs hP hD hS ls hl9
  · refine lv_tableIn (off := 762) (tgt := 801) hx hb dL_law_39 (by decide +kernel) (by decide +kernel) (by decide +kernel) (by decide) ?_
    exact lawc_16 l hst D cI cC cZ cP cL C0 hE hZ q_74 q_46 q_1 q_2 q_8 q_11 q_16 q_19 q_22 q_24 q_25 q_26 q_36 q_3 q_4 q_5 q_6 q_7 q_9 q_10 q_12 q_13 q_14 q_15 q_17 q_18 q_20 q_21 q_23 q_27 q_32 q_33 q_34 q_35 q_28 q_29 q_30 q_31 q_37 q_42 q_43 q_44 q_45 q_38 q_39 q_40 q_41 q_47 q_48 q_49 q_50 q_51 q_52 q_53 q_54 q_55 q_56 q_57 q_58 q_59 q_60 q_61 q_62 q_63 q_64 q_65 q_66 q_67 q_68 q_69 q_70 q_71 q_72 q_73 H locs hP hD hS ls hl9
  · refine lv_tableIn (off := 830) (tgt := 869) hx hb dL_law_39 (by decide +kernel) (by decide +kernel) (by decide +kernel) (by decide) ?_
    exact lawc_17 l hst D cI cC cZ cP cL C0 hE hZ q_74 q_46 q_1 q_2 q_8 q_11 q_16 q_19 q_22 q_24 q_25 q_26 q_36 q_3 q_4 q_5 q_6 q_7 q_9 q_10 q_12 q_13 q_14 q_15 q_17 q_18 q_20 q_21 q_23 q_27 q_32 q_33 q_34 q_35 q_28 q_29 q_30 q_31 q_37 q_42 q_43 q_44 q_45 q_38 q_39 q_40 q_41 q_47 q_48 q_49 q_50 q_51 q_52 q_53 q_54 q_55 q_56 q_57 q_58 q_59 q_60 q_61 q_62 q_63 q_64 q_65 q_66 q_67 q_68 q_69 q_70 q_71 q_72 q_73 H locs hP hD hS ls hl9
  · refine lv_tableIn (off := 874) (tgt := 913) hx hb dL_law_39 (by decide +kernel) (by decide +kernel) (by decide +kernel) (by decide) ?_
    exact lawc_18 l hst D cI cC cZ cP cL C0 hE hZ q_74 q_46 q_1 q_2 q_8 q_11 q_16 q_19 q_22 q_24 q_25 q_26 q_36 q_3 q_4 q_5 q_6 q_7 q_9 q_10 q_12 q_13 q_14 q_15 q_17 q_18 q_20 q_21 q_23 q_27 q_32 q_33 q_34 q_35 q_28 q_29 q_30 q_31 q_37 q_42 q_43 q_44 q_45 q_38 q_39 q_40 q_41 q_47 q_48 q_49 q_50 q_51 q_52 q_53 q_54 q_55 q_56 q_57 q_58 q_59 q_60 q_61 q_62 q_63 q_64 q_65 q_66 q_67 q_68 q_69 q_70 q_71 q_72 q_73 H locs hP hD hS ls hl9
  · refine lv_tableIn (off := 918) (tgt := 957) hx hb dL_law_39 (by decide +kernel) (by decide +kernel) (by decide +kernel) (by decide) ?_
    exact lawc_19 l hst D cI cC cZ cP cL C0 hE hZ q_74 q_46 q_1 q_2 q_8 q_11 q_16 q_19 q_22 q_24 q_25 q_26 q_36 q_3 q_4 q_5 q_6 q_7 q_9 q_10 q_12 q_13 q_14 q_15 q_17 q_18 q_20 q_21 q_23 q_27 q_32 q_33 q_34 q_35 q_28 q_29 q_30 q_31 q_37 q_42 q_43 q_44 q_45 q_38 q_39 q_40 q_41 q_47 q_48 q_49 q_50 q_51 q_52 q_53 q_54 q_55 q_56 q_57 q_58 q_59 q_60 q_61 q_62 q_63 q_64 q_65 q_66 q_67 q_68 q_69 q_70 q_71 q_72 q_73 H locs hP hD hS ls hl9
  · refine lv_tableIn (off := 969) (tgt := 1008) hx hb dL_law_39 (by decide +kernel) (by decide +kernel) (by decide +kernel) (by decide) ?_
    exact lawc_20 l hst D cI cC cZ cP cL C0 hE hZ q_74 q_46 q_1 q_2 q_8 q_11 q_16 q_19 q_22 q_24 q_25 q_26 q_36 q_3 q_4 q_5 q_6 q_7 q_9 q_10 q_12 q_13 q_14 q_15 q_17 q_18 q_20 q_21 q_23 q_27 q_32 q_33 q_34 q_35 q_28 q_29 q_30 q_31 q_37 q_42 q_43 q_44 q_45 q_38 q_39 q_40 q_41 q_47 q_48 q_49 q_50 q_51 q_52 q_53 q_54 q_55 q_56 q_57 q_58 q_59 q_60 q_61 q_62 q_63 q_64 q_65 q_66 q_67 q_68 q_69 q_70 q_71 q_72 q_73 H locs hP hD hS ls hl9
  · refine lv_tableIn (off := 1025) (tgt := 1064) hx hb dL_law_39 (by decide +kernel) (by decide +kernel) (by decide +kernel) (by decide) ?_
    exact lawc_21 l hst D cI cC cZ cP cL C0 hE hZ q_74 q_46 q_1 q_2 q_8 q_11 q_16 q_19 q_22 q_24 q_25 q_26 q_36 q_3 q_4 q_5 q_6 q_7 q_9 q_10 q_12 q_13 q_14 q_15 q_17 q_18 q_20 q_21 q_23 q_27 q_32 q_33 q_34 q_35 q_28 q_29 q_30 q_31 q_37 q_42 q_43 q_44 q_45 q_38 q_39 q_40 q_41 q_47 q_48 q_49 q_50 q_51 q_52 q_53 q_54 q_55 q_56 q_57 q_58 q_59 q_60 q_61 q_62 q_63 q_64 q_65 q_66 q_67 q_68 q_69 q_70 q_71 q_72 q_73 H locs hP hD hS ls hl9
  · refine lv_tableIn (off := 1081) (tgt := 1120) hx hb dL_law_39 (by decide +kernel) (by decide +kernel) (by decide +kernel) (by decide) ?_
    exact lawc_22 l hst D cI cC cZ cP cL C0 hE hZ q_74 q_46 q_1 q_2 q_8 q_11 q_16 q_19 q_22 q_24 q_25 q_26 q_36 q_3 q_4 q_5 q_6 q_7 q_9 q_10 q_12 q_13 q_14 q_15 q_17 q_18 q_20 q_21 q_23 q_27 q_32 q_33 q_34 q_35 q_28 q_29 q_30 q_31 q_37 q_42 q_43 q_44 q_45 q_38 q_39 q_40 q_41 q_47 q_48 q_49 q_50 q_51 q_52 q_53 q_54 q_55 q_56 q_57 q_58 q_59 q_60 q_61 q_62 q_63 q_64 q_65 q_66 q_67 q_68 q_69 q_70 q_71 q_72 q_73 H locs hP hD hS ls hl9
  · refine lv_tableIn (off := 1125) (tgt := 1164) hx hb dL_law_39 (by decide +kernel) (by decide +kernel) (by decide +kernel) (by decide) ?_
    exact lawc_23 l hst D cI cC cZ cP cL C0 hE hZ q_74 q_46 q_1 q_2 q_8 q_11 q_16 q_19 q_22 q_24 q_25 q_26 q_36 q_3 q_4 q_5 q_6 q_7 q_9 q_10 q_12 q_13 q_14 q_15 q_17 q_18 q_20 q_21 q_23 q_27 q_32 q_33 q_34 q_35 q_28 q_29 q_30 q_31 q_37 q_42 q_43 q_44 q_45 q_38 q_39 q_40 q_41 q_47 q_48 q_49 q_50 q_51 q_52 q_53 q_54 q_55 q_56 q_57 q_58 q_59 q_60 q_61 q_62 q_63 q_64 q_65 q_66 q_67 q_68 q_69 q_70 q_71 q_72 q_73 H locs hP hD hS ls hl9
  · refine lv_tableIn (off := 1181) (tgt := 1220) hx hb dL_law_39 (by decide +kernel) (by decide +kernel) (by decide +kernel) (by decide) ?_
    exact lawc_24 l hst D cI cC cZ cP cL C0 hE hZ q_74 q_46 q_1 q_2 q_8 q_11 q_16 q_19 q_22 q_24 q_25 q_26 q_36 q_3 q_4 q_5 q_6 q_7 q_9 q_10 q_12 q_13 q_14 q_15 q_17 q_18 q_20 q_21 q_23 q_27 q_32 q_33 q_34 q_35 q_28 q_29 q_30 q_31 q_37 q_42 q_43 q_44 q_45 q_38 q_39 q_40 q_41 q_47 q_48 q_49 q_50 q_51 q_52 q_53 q_54 q_55 q_56 q_57 q_58 q_59 q_60 q_61 q_62 q_63 q_64 q_65 q_66 q_67 q_68 q_69 q_70 q_71 q_72 q_73 H locs hP hD hS ls hl9
  · refine lv_tableIn (off := 1208) (tgt := 1247) hx hb dL_law_39 (by decide +kernel) (by decide +kernel) (by decide +kernel) (by decide) ?_
    exact lawc_25 l hst D cI cC cZ cP cL C0 hE hZ q_74 q_46 q_1 q_2 q_8 q_11 q_16 q_19 q_22 q_24 q_25 q_26 q_36 q_3 q_4 q_5 q_6 q_7 q_9 q_10 q_12 q_13 q_14 q_15 q_17 q_18 q_20 q_21 q_23 q_27 q_32 q_33 q_34 q_35 q_28 q_29 q_30 q_31 q_37 q_42 q_43 q_44 q_45 q_38 q_39 q_40 q_41 q_47 q_48 q_49 q_50 q_51 q_52 q_53 q_54 q_55 q_56 q_57 q_58 q_59 q_60 q_61 q_62 q_63 q_64 q_65 q_66 q_67 q_68 q_69 q_70 q_71 q_72 q_73 H locs hP hD hS ls hl9
  · refine lv_tableIn (off := 1264) (tgt := 1303) hx hb dL_law_39 (by decide +kernel) (by decide +kernel) (by decide +kernel) (by decide) ?_
    exact lawc_26 l hst D cI cC cZ cP cL C0 hE hZ q_74 q_46 q_1 q_2 q_8 q_11 q_16 q_19 q_22 q_24 q_25 q_26 q_36 q_3 q_4 q_5 q_6 q_7 q_9 q_10 q_12 q_13 q_14 q_15 q_17 q_18 q_20 q_21 q_23 q_27 q_32 q_33 q_34 q_35 q_28 q_29 q_30 q_31 q_37 q_42 q_43 q_44 q_45 q_38 q_39 q_40 q_41 q_47 q_48 q_49 q_50 q_51 q_52 q_53 q_54 q_55 q_56 q_57 q_58 q_59 q_60 q_61 q_62 q_63 q_64 q_65 q_66 q_67 q_68 q_69 q_70 q_71 q_72 q_73 H locs hP hD hS ls hl9
  · refine lv_tableIn (off := 1289) (tgt := 1328) hx hb dL_law_39 (by decide +kernel) (by decide +kernel) (by decide +kernel) (by decide) ?_
    exact lawc_27 l hst D cI cC cZ cP cL C0 hE hZ q_74 q_46 q_1 q_2 q_8 q_11 q_16 q_19 q_22 q_24 q_25 q_26 q_36 q_3 q_4 q_5 q_6 q_7 q_9 q_10 q_12 q_13 q_14 q_15 q_17 q_18 q_20 q_21 q_23 q_27 q_32 q_33 q_34 q_35 q_28 q_29 q_30 q_31 q_37 q_42 q_43 q_44 q_45 q_38 q_39 q_40 q_41 q_47 q_48 q_49 q_50 q_51 q_52 q_53 q_54 q_55 q_56 q_57 q_58 q_59 q_60 q_61 q_62 q_63 q_64 q_65 q_66 q_67 q_68 q_69 q_70 q_71 q_72 q_73 H locs hP hD hS ls hl9
  · refine lv_tableIn (off := 1302) (tgt := 1341) hx hb dL_law_39 (by decide +kernel) (by decide +kernel) (by decide +kernel) (by decide) ?_
    exact lawc_28 l hst D cI cC cZ cP cL C0 hE hZ q_74 q_46 q_1 q_2 q_8 q_11 q_16 q_19 q_22 q_24 q_25 q_26 q_36 q_3 q_4 q_5 q_6 q_7 q_9 q_10 q_12 q_13 q_14 q_15 q_17 q_18 q_20 q_21 q_23 q_27 q_32 q_33 q_34 q_35 q_28 q_29 q_30 q_31 q_37 q_42 q_43 q_44 q_45 q_38 q_39 q_40 q_41 q_47 q_48 q_49 q_50 q_51 q_52 q_53 q_54 q_55 q_56 q_57 q_58 q_59 q_60 q_61 q_62 q_63 q_64 q_65 q_66 q_67 q_68 q_69 q_70 q_71 q_72 q_73 H locs hP hD hS ls hl9
  · refine lv_tableOut (tgt := 1385) hx hb dL_law_39 (by decide +kernel) (by decide) ?_
    exact law_tail C0 (by decide) (by decide) hS (lv_sub hl [0, 4] rfl)
  · refine lv_tableOut (tgt := 1385) hx hb dL_law_39 (by decide +kernel) (by decide) ?_
    exact law_tail C0 (by decide) (by decide) hS (lv_sub hl [0, 4] rfl)
  · refine lv_tableOut (tgt := 1385) hx hb dL_law_39 (by decide +kernel) (by decide) ?_
    exact law_tail C0 (by decide) (by decide) hS (lv_sub hl [0, 4] rfl)
set_option maxHeartbeats 8000000 in
set_option maxRecDepth 100000 in
/-- THE LAW, from its entry -/
theorem whole_start {p : Program} {e : Env} {s : State} {m : MethodId} {below : List Frame} {meth : Method} {c : Code} (l : Launch) (hflags : l.flags = flags0) {b L : Nat} {xs : Nat → Int32} (hL : L ≤ 3) (C0 : lw_At p s m meth c b L xs) : W p l e room_1 s m #[Value.ref b] below meth c s.heap [] 0 0 (lw_Z below #[Value.ref b] s) (entryFrame m ([Value.ref b] : List Value).toArray 8) := by
  have hst : l.stackTraces = false := by
    unfold Launch.stackTraces
    rw [hflags]
    decide +kernel
  obtain ⟨D, cI, cC, cZ, cP, cL, hE, hZ⟩ := law_ground C0
  have hl := lv_entry ([.ref b]) (n := 8) (Nat.le_of_ble_eq_true rfl)
  rw [lg_entry_eq]
  generalize (lg_sl ([.ref b]) ++ List.replicate (8 - (lg_sl ([.ref b])).length) Slot.unset).toArray = ls at hl ⊢
  have hl : lv_has ls 8 [(0, .ref b)] := hl
  refine law_start l hst D cI cC cZ cP cL C0 hE (fun q_74 q_46 q_1 q_2 q_8 q_11 q_16 q_19 q_22 q_24 q_25 q_26 q_36 q_3 q_4 q_5 q_6 q_7 q_9 q_10 q_12 q_13 q_14 q_15 q_17 q_18 q_20 q_21 q_23 q_27 q_32 q_33 q_34 q_35 q_28 q_29 q_30 q_31 q_37 q_42 q_43 q_44 q_45 q_38 q_39 q_40 q_41 q_47 q_48 q_49 q_50 q_51 q_52 q_53 q_54 q_55 q_56 q_57 q_58 q_59 q_60 q_61 q_62 q_63 q_64 q_65 q_66 q_67 q_68 q_69 q_70 q_71 q_72 q_73 H locs hP hD hS ls hl => ?_) s.heap [] (fun k q h => by simp at h) ⟨fun i j p q h => by simp at h, fun k q h => by simp at h⟩ va_S.rf ls hl
  obtain rfl | hL3 : L = 3 ∨ L < 3 := by omega
  · exact law_go l hst D cI cC cZ cP cL C0 hE hZ q_74 q_46 q_1 q_2 q_8 q_11 q_16 q_19 q_22 q_24 q_25 q_26 q_36 q_3 q_4 q_5 q_6 q_7 q_9 q_10 q_12 q_13 q_14 q_15 q_17 q_18 q_20 q_21 q_23 q_27 q_32 q_33 q_34 q_35 q_28 q_29 q_30 q_31 q_37 q_42 q_43 q_44 q_45 q_38 q_39 q_40 q_41 q_47 q_48 q_49 q_50 q_51 q_52 q_53 q_54 q_55 q_56 q_57 q_58 q_59 q_60 q_61 q_62 q_63 q_64 q_65 q_66 q_67 q_68 q_69 q_70 q_71 q_72 q_73 H locs hP hD hS ls hl
  · obtain ⟨hx, hb, hr, hml, hown, hts0, hX, hbl, hlocks, hgv⟩ := id C0
    have hbA : ¬ (fun q : Nat => s.heap.size ≤ q) b := Nat.not_le.mpr hbl
    obtain rfl | rfl | rfl : L = 0 ∨ L = 1 ∨ L = 2 := by omega
    · refine lv_iload hx hb dL_law_23 (lv_at hl 0 rfl) ?_
      refine lv_aload_n hx hb dL_law_25 rfl (lv_at hl 4 rfl) ?_
      refine va_slen hx hb hX hbl hbA hS dL_law_26 ?_
      refine gTop (v := 0) rfl ?_
      refine lv_iconst (v := 3) hx hb dL_law_27 (by decide) ?_
      refine lv_isub hx hb dL_law_28 ?_
      refine gTop (v := (-3)) (by decide +kernel) ?_
      refine lv_icmp_gt (tgt := 1391) hx hb dL_law_29 (by decide) (fun _ => ?_) (fun h9 => absurd (by decide +kernel) h9)
      refine lv_iconst (v := 1) hx hb dL_law_1391 (by decide) ?_
      refine va_forget (fun q hq => hS.2.2 q hq) ?_
      refine W.widen (k := 600006) (n := 7302040) (Nat.le_of_ble_eq_true rfl) (Nat.le_of_ble_eq_true rfl) ?_
      exact lw_ret hx hb hr hlocks dL_law_1392
    · refine lv_iload hx hb dL_law_23 (lv_at hl 0 rfl) ?_
      refine lv_aload_n hx hb dL_law_25 rfl (lv_at hl 4 rfl) ?_
      refine va_slen hx hb hX hbl hbA hS dL_law_26 ?_
      refine gTop (v := 1) rfl ?_
      refine lv_iconst (v := 3) hx hb dL_law_27 (by decide) ?_
      refine lv_isub hx hb dL_law_28 ?_
      refine gTop (v := (-2)) (by decide +kernel) ?_
      refine lv_icmp_gt (tgt := 1391) hx hb dL_law_29 (by decide) (fun _ => ?_) (fun h9 => absurd (by decide +kernel) h9)
      refine lv_iconst (v := 1) hx hb dL_law_1391 (by decide) ?_
      refine va_forget (fun q hq => hS.2.2 q hq) ?_
      refine W.widen (k := 600006) (n := 7302040) (Nat.le_of_ble_eq_true rfl) (Nat.le_of_ble_eq_true rfl) ?_
      exact lw_ret hx hb hr hlocks dL_law_1392
    · refine lv_iload hx hb dL_law_23 (lv_at hl 0 rfl) ?_
      refine lv_aload_n hx hb dL_law_25 rfl (lv_at hl 4 rfl) ?_
      refine va_slen hx hb hX hbl hbA hS dL_law_26 ?_
      refine gTop (v := 2) rfl ?_
      refine lv_iconst (v := 3) hx hb dL_law_27 (by decide) ?_
      refine lv_isub hx hb dL_law_28 ?_
      refine gTop (v := (-1)) (by decide +kernel) ?_
      refine lv_icmp_gt (tgt := 1391) hx hb dL_law_29 (by decide) (fun _ => ?_) (fun h9 => absurd (by decide +kernel) h9)
      refine lv_iconst (v := 1) hx hb dL_law_1391 (by decide) ?_
      refine va_forget (fun q hq => hS.2.2 q hq) ?_
      refine W.widen (k := 600006) (n := 7302040) (Nat.le_of_ble_eq_true rfl) (Nat.le_of_ble_eq_true rfl) ?_
      exact lw_ret hx hb hr hlocks dL_law_1392
set_option maxHeartbeats 4000000 in
theorem lw_walk (l : Launch) (hflags : l.flags = flags0) (b : Addr) (xs : List Int32) : MetFree l x (headSpec (Jvm.Cond.code x code maxLocals ret :: tables_1) room_1) (lw_P b xs) (fun _ _ _ _ _ => True) lw_Q := by
  refine MetFree.of_bodyS (code := code) (maxLocals := maxLocals) (ret := ret) (by decide) ?_ ?_
  · intro args s m h hn
    obtain ⟨meth, c, h1, h2, h3, h4, h5, h6, -, -⟩ := Cond.code_spec hn (atoms_spec (ws := Jvm.Cond.code x code maxLocals ret :: tables_1) h _ List.mem_cons_self)
    exact ⟨meth, c, h1, h2, h3, h4, h5, h6⟩
  · intro p e s m args below meth c s₁ B hml0 hP _
    obtain ⟨rfl, hx, hbd, hgv⟩ := hP
    obtain ⟨scr, harrAt, hlist, hof, hsmall⟩ := hx
    obtain ⟨hcb, hkn, -, -⟩ := State.arrayAt?_spec harrAt
    have hown : s.vm.findClass R_law = some m.cls := findClass_of_methodNamed B.named
    have hts0 : ∀ c ∈ (Jvm.Cond.code x code maxLocals ret :: tables_1), c.before #[Value.ref b] s = true := atoms_spec (ws := Jvm.Cond.code x code maxLocals ret :: tables_1) B.pre
    have hts : ∀ w ∈ lw_tbl, w.before #[Value.ref b] s = true := k2_hts_sels lw_privs (fun w hw => hts0 w (List.mem_cons_of_mem _ hw)) lw_privs_ok
    have hml : c.maxLocals = 8 := B.maxLocals_eq (hts0 _ List.mem_cons_self)
    have X₀ : Stand p l e room_1 s m #[Value.ref b] below meth c s₁ [] 0 0 := Stand.of_body B
    have hh0 : s₁.heap = s.heap := by rw [B.state]; rfl
    have hsz : scr.slots.size = xs.length := by rw [← Array.length_toList, hlist, List.length_map]
    have hval : ∀ j : Nat, j < xs.length → scr.slots[j]? = some (.int (xs.getD j 0)) := fun j hj => by
      rw [← Array.getElem?_toList, hlist]
      simp [hj]
    have hbl : b < s.heap.size := (Array.getElem?_eq_some_iff.mp hcb).1
    have hX : va_X b xs.length (fun j => xs.getD j 0) s s.heap := ⟨scr, hcb, hof, hkn, hsz, hval⟩
    have K : W p l e room_1 s m #[Value.ref b] below meth c s₁.heap [] 0 0 (lw_Z below #[Value.ref b] s) (entryFrame m ([Value.ref b] : List Value).toArray 8) := by
      rw [hh0]
      exact whole_start l hflags hbd ⟨B.exec, B.bytes, B.returns, hml, hown, hts, hX, hbl, B.notSynchronized, hgv⟩
    obtain ⟨t, a1, o, b1, b2, b3⟩ := K s₁ rfl X₀
    exact ⟨t, o, a1, b1, b2, b3⟩
theorem lw_pre_spec {args : Array Value} {s : State} (h : (Jvm.Cond.and given_1 narrow_1).before args s = true) (hr : rest_1_c.before args s = true) : ∃ (b : Addr) (xs : List Int32), lw_P b xs args s := by
  have hs := flat_of_before _ h
  have hq := flat_of_before _ hr
  have hc : (Cond.count 1).before args s = true := hs _ (by decide +kernel)
  have harr : (Cond.arrayOf (.arg 0) .int).before args s = true := hs _ (by decide +kernel)
  have hle : (Cond.le (.length (.arg 0)) (.int 3)).before args s = true := hs _ (by decide +kernel)
  have hlen : (Cond.isInt (.length (.arg 0))).before args s = true := hq _ (by decide +kernel)
  have hall : (Cond.all (.arg 0) (.isInt (.elem (.arg 0) (.index 0)))).before args s = true := hq _ (by decide +kernel)
  obtain ⟨b, xs, hb, hx⟩ := State.ints_of_pre rfl harr hlen hall
  have hsm : xs.length < 2 ^ 31 := hx.choose_spec.2.2.2
  have hev : (Term.length (.arg 0)).eval args s none [] s = some (.int xs.length.toInt32) := hx.length_eval hb
  have hv := Cond.le_ints hev (show (Term.int 3).eval args s none [] s = some (.int 3) from rfl)
  have hd : xs.length.toInt32 ≤ 3 := by
    simpa [Cond.before, Cond.holds, hv] using hle
  have hN : xs.length ≤ 3 := (Int32.ofNat_le_ofNat hsm (by decide)).mp (show Int32.ofNat xs.length ≤ Int32.ofNat 3 from hd)
  exact ⟨b, xs, Cond.one_arg hc (show args[0]? = some (.ref b) from hb), hx, hN, h⟩
theorem lw_comes (l : Launch) (hflags : l.flags = flags0) : Comes l x (Jvm.Cond.code x code maxLocals ret :: tables_1) room_1 (fun tb e args s => Calls_1 tb e args s ∧ rest_1 tb e args s ∧ Pre_1 tb e args s)
    (fun _ _ args s o t => lw_Q args s o t) := by
  intro p e ha hc hk s m args below hf hfit hheap happ hpre
  obtain ⟨b, xs, hP⟩ := lw_pre_spec hpre.2.2 hpre.2.1
  obtain ⟨k, o, h1, h2, h3, hQ⟩ := lw_walk l hflags b xs p e ha hc hk s m args below hf ((Spec.applies_iff_loose hf).mp happ).1 hP trivial
  exact ⟨k, o, h1, h2, h3, hQ⟩
theorem lw_frame {s t : State} {o : Outcome} {args : Array Value} (h : Framed s o t [] 600006 7302040) :
    Framed s o t (fieldLocs frame_1_writes args s ++ arrayLocs frame_1_arrays args s ++ staticLocs frame_1_statics s) 600006 7302040 := h
theorem lw_limb (L : Cond) (hL : ∀ (args : Array Value) (s t : State), L.after args s (.returned (some (.int 1))) t = true) :
    ArmFor flags0 classFile x code maxLocals ret World_1 tables_1 room_1 Calls_1 rest_1 Pre_1
      (fun tb e a s o t => postC L tb e a s o t ∧ Framed s o t (fieldLocs frame_1_writes a s ++ arrayLocs frame_1_arrays a s ++ staticLocs frame_1_statics s) 600006 7302040) := by
  intro l hflags _ _ p e ha hc hk s m args below hf hfit hheap happ hpre
  obtain ⟨k, o, h1, h2, h3, rfl, hF⟩ := lw_comes l hflags p e ha hc hk s m args below hf hfit hheap happ hpre
  exact ⟨k, _, h1, h2, h3, hL args s _, lw_frame hF⟩
theorem i_vc : Claimed_1_1 ∧ Claimed_1_2 := ⟨lw_limb limb_1_1 (fun args s t => by simp [limb_1_1, Cond.after, Cond.holds, Cond.value]), lw_limb limb_1_2 (fun args s t => Cond.after_iff.mpr (by
  first | (rw [show limb_1_2 = Cond.eq .result (.int 1) from rfl, Cond.eq_ints (x := 1) (y := 1) rfl rfl]; simp; done) | (simp [limb_1_2, Cond.value, Term.eval]; done)))⟩

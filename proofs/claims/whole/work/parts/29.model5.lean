/-! Methods: bytes, denotations, that the bytes do so (written by wip/whole/jgen.py). -/
/-! BlinkerCrossModel.closing()I -/
abbrev y_M_closing : MethodName := ⟨"BlinkerCrossModel", "closing", "()I"⟩
abbrev Y_M_closing : Yt := (prog_14_method_105_code, 4, "BlinkerCrossModel", 6, (some .int), "closing")
theorem d_M_closing_0 : decode prog_14_method_105_code 0 = .ok (.aload_n 0, 1) := by decide +kernel
theorem d_M_closing_1 : decode prog_14_method_105_code 1 = .ok (.invokevirtual 357, 3) := by decide +kernel
theorem d_M_closing_4 : decode prog_14_method_105_code 4 = .ok (.aload_n 0, 1) := by decide +kernel
theorem d_M_closing_5 : decode prog_14_method_105_code 5 = .ok (.invokevirtual 491, 3) := by decide +kernel
theorem d_M_closing_8 : decode prog_14_method_105_code 8 = .ok (.istore_n 1, 1) := by decide +kernel
theorem d_M_closing_9 : decode prog_14_method_105_code 9 = .ok (.iconst 0, 1) := by decide +kernel
theorem d_M_closing_10 : decode prog_14_method_105_code 10 = .ok (.istore_n 2, 1) := by decide +kernel
theorem d_M_closing_11 : decode prog_14_method_105_code 11 = .ok (.iconst 0, 1) := by decide +kernel
theorem d_M_closing_12 : decode prog_14_method_105_code 12 = .ok (.istore_n 3, 1) := by decide +kernel
theorem d_M_closing_13 : decode prog_14_method_105_code 13 = .ok (.iload_n 3, 1) := by decide +kernel
theorem d_M_closing_14 : decode prog_14_method_105_code 14 = .ok (.aload_n 0, 1) := by decide +kernel
theorem d_M_closing_15 : decode prog_14_method_105_code 15 = .ok (.getfield 46, 3) := by decide +kernel
theorem d_M_closing_18 : decode prog_14_method_105_code 18 = .ok (.aload_n 0, 1) := by decide +kernel
theorem d_M_closing_19 : decode prog_14_method_105_code 19 = .ok (.getfield 242, 3) := by decide +kernel
theorem d_M_closing_22 : decode prog_14_method_105_code 22 = .ok (.iaload, 1) := by decide +kernel
theorem d_M_closing_23 : decode prog_14_method_105_code 23 = .ok (.if_icmp .ge 32, 3) := by decide +kernel
theorem d_M_closing_26 : decode prog_14_method_105_code 26 = .ok (.aload_n 0, 1) := by decide +kernel
theorem d_M_closing_27 : decode prog_14_method_105_code 27 = .ok (.iload_n 3, 1) := by decide +kernel
theorem d_M_closing_28 : decode prog_14_method_105_code 28 = .ok (.putfield 329, 3) := by decide +kernel
theorem d_M_closing_31 : decode prog_14_method_105_code 31 = .ok (.aload_n 0, 1) := by decide +kernel
theorem d_M_closing_32 : decode prog_14_method_105_code 32 = .ok (.invokevirtual 354, 3) := by decide +kernel
theorem d_M_closing_35 : decode prog_14_method_105_code 35 = .ok (.aload_n 0, 1) := by decide +kernel
theorem d_M_closing_36 : decode prog_14_method_105_code 36 = .ok (.invokevirtual 491, 3) := by decide +kernel
theorem d_M_closing_39 : decode prog_14_method_105_code 39 = .ok (.iload_n 1, 1) := by decide +kernel
theorem d_M_closing_40 : decode prog_14_method_105_code 40 = .ok (.if_icmp .le 9, 3) := by decide +kernel
theorem d_M_closing_43 : decode prog_14_method_105_code 43 = .ok (.iload_n 2, 1) := by decide +kernel
theorem d_M_closing_44 : decode prog_14_method_105_code 44 = .ok (.iconst 1, 1) := by decide +kernel
theorem d_M_closing_45 : decode prog_14_method_105_code 45 = .ok (.iload_n 3, 1) := by decide +kernel
theorem d_M_closing_46 : decode prog_14_method_105_code 46 = .ok (.ishl, 1) := by decide +kernel
theorem d_M_closing_47 : decode prog_14_method_105_code 47 = .ok (.ior, 1) := by decide +kernel
theorem d_M_closing_48 : decode prog_14_method_105_code 48 = .ok (.istore_n 2, 1) := by decide +kernel
theorem d_M_closing_49 : decode prog_14_method_105_code 49 = .ok (.iinc 3 1, 3) := by decide +kernel
theorem d_M_closing_52 : decode prog_14_method_105_code 52 = .ok (.goto (-39), 3) := by decide +kernel
theorem d_M_closing_55 : decode prog_14_method_105_code 55 = .ok (.iload_n 2, 1) := by decide +kernel
theorem d_M_closing_56 : decode prog_14_method_105_code 56 = .ok (.ireturn, 1) := by decide +kernel
noncomputable def Lc_M_closing_1 : Xp Bool := o2 (fun x y => decide (x < y)) (vI 3) (aI 0 (gR 12 23 (vR 0)) (gI 12 18 (vR 0)))
noncomputable def Lb_M_closing_1 : Sm := sSeq (sPut 12 51 (vR 0) (asV Value.int (vI 3))) (sSeq (sCall (mV 12 D_M_fillsChoices) [asV Value.ref (vR 0)]) (sIf (o2 (fun x y => decide (x > y)) (cI (mV 12 D_M_gainAll) [asV Value.ref (vR 0)]) (vI 1)) (sSet 2 (asV Value.int (o2 (fun x y => x ||| y) (vI 2) (o2 (fun (x y : Int32) => x <<< (y &&& 31)) (kI (ii 1)) (vI 3))))) (sSkip)))
noncomputable def Lu_M_closing_1 : Sm := sInc 3 (ii 1)
noncomputable def F_M_closing : Sm := sSeq (sCall (mV 12 D_M_copies) [asV Value.ref (vR 0)]) (sSeq (sDecl (asV Value.int (cI (mV 12 D_M_gainAll) [asV Value.ref (vR 0)]))) (sSeq (sDecl (asV Value.int (kI (ii 0)))) (sSeq (sBlk 3 (sSeq (sDecl (asV Value.int (kI (ii 0)))) (sWh (Lc_M_closing_1) (Lb_M_closing_1) Lu_M_closing_1))) (sRet (asV Value.int (vI 2))))))
theorem mf_M_closing : Mf y_M_closing prog_14_method_105_code 4 (some .int) 0 := ⟨tw_1954, tw_134, by decide +kernel⟩
noncomputable def D_M_closing : Dn := runS [1] F_M_closing
theorem ok_M_closing : MOK y_M_closing prog_14_method_105_code 4 (some .int) 6 0 0 D_M_closing := MOK.of (by decide) (by decide) (show SO Y_M_closing [(0, 1)] [(0, 1), (1, 1), (2, 1)] 0 57 (([], 0), ([], 0)) F_M_closing from
  (s_seq (sl1 := [(0, 1)]) (p1 := 4) (s_call (p1 := 1) (a_cons (ι := Value.ref) (k0 := 1) (p1 := 1) (fun _ => rfl) (e_aload_n (k0 := 0) d_M_closing_0 rfl rfl) a_nil) (k_virt ok_M_copies mf_M_copies ⟨tw_1707, tw_73⟩ rfl tw_1705 d_M_closing_1 (by decide) (by decide) (by decide))) (s_seq (sl1 := [(0, 1), (1, 1)]) (p1 := 9) (s_decl (p1 := 8) (e_cI (p1 := 5) (a_cons (ι := Value.ref) (k0 := 1) (p1 := 5) (fun _ => rfl) (e_aload_n (k0 := 0) d_M_closing_4 rfl rfl) a_nil) (k_virt ok_M_gainAll mf_M_gainAll ⟨tw_1957, tw_116⟩ rfl tw_1955 d_M_closing_5 (by decide) (by decide) (by decide))) (t_istore_n d_M_closing_8 rfl (by decide)) rfl) (s_seq (sl1 := [(0, 1), (1, 1), (2, 1)]) (p1 := 11) (s_decl (p1 := 10) (e_iconst d_M_closing_9 (by decide)) (t_istore_n d_M_closing_10 rfl (by decide)) rfl) (s_seq (sl1 := [(0, 1), (1, 1), (2, 1)]) (p1 := 55) (s_blk (sl1 := [(0, 1), (1, 1), (2, 1), (3, 1)]) (s_seq (sl1 := [(0, 1), (1, 1), (2, 1), (3, 1)]) (p1 := 13) (s_decl (p1 := 12) (e_iconst d_M_closing_11 (by decide)) (t_istore_n d_M_closing_12 rfl (by decide)) rfl) (s_for (pt := 26) (pu := 49) (pf := 55) (pg := 0) (c_icmp_geF (p1 := 14) (p2 := 23) (tg := 55) (e_iload_n (k0 := 3) d_M_closing_13 rfl rfl) (e_iald (p1 := 18) (p2 := 22) (e_gR (k0 := 23) (p1 := 15) cf_12 (e_aload_n (k0 := 0) d_M_closing_14 rfl rfl) (by decide) tw_1383 d_M_closing_15) (e_gI (k0 := 18) (p1 := 19) cf_12 (e_aload_n (k0 := 0) d_M_closing_18 rfl rfl) (by decide) tw_1378 d_M_closing_19) d_M_closing_22) d_M_closing_23 rfl) (s_seq (sl1 := [(0, 1), (1, 1), (2, 1), (3, 1)]) (p1 := 31) (s_put (k0 := 51) (p1 := 27) (p2 := 28) cf_12 (e_aload_n (k0 := 0) d_M_closing_26 rfl rfl) (e_iload_n (k0 := 3) d_M_closing_27 rfl rfl) (by decide) fk_i tw_1411 (Or.inl rfl) d_M_closing_28) (s_seq (sl1 := [(0, 1), (1, 1), (2, 1), (3, 1)]) (p1 := 35) (s_call (p1 := 32) (a_cons (ι := Value.ref) (k0 := 1) (p1 := 32) (fun _ => rfl) (e_aload_n (k0 := 0) d_M_closing_31 rfl rfl) a_nil) (k_virt ok_M_fillsChoices mf_M_fillsChoices ⟨tw_1711, tw_74⟩ rfl tw_1709 d_M_closing_32 (by decide) (by decide) (by decide))) (s_if (pt := 43) (pf := 49) (c_icmp_leF (p1 := 39) (p2 := 40) (tg := 49) (e_cI (p1 := 36) (a_cons (ι := Value.ref) (k0 := 1) (p1 := 36) (fun _ => rfl) (e_aload_n (k0 := 0) d_M_closing_35 rfl rfl) a_nil) (k_virt ok_M_gainAll mf_M_gainAll ⟨tw_1957, tw_116⟩ rfl tw_1955 d_M_closing_36 (by decide) (by decide) (by decide))) (e_iload_n (k0 := 1) d_M_closing_39 rfl rfl) d_M_closing_40 rfl) (s_set (k0 := 2) (p1 := 48) (e_ior (p1 := 44) (p2 := 47) (e_iload_n (k0 := 2) d_M_closing_43 rfl rfl) (e_ishl (p1 := 45) (p2 := 46) (e_iconst d_M_closing_44 (by decide)) (e_iload_n (k0 := 3) d_M_closing_45 rfl rfl) d_M_closing_46) d_M_closing_47) (t_istore_n d_M_closing_48 rfl (by decide)) rfl rfl) s_skip))) (s_goto (p1 := 52) (s_inc (k0 := 3) d_M_closing_49 rfl rfl (Nat.le_of_ble_eq_true rfl) rfl) d_M_closing_52 rfl))) rfl) (s_ret (p1 := 56) (e_iload_n (k0 := 2) d_M_closing_55 rfl rfl) rfl d_M_closing_56))))))
/-! BlinkerCrossModel.fillsSearch(I)V -/
abbrev y_M_fillsSearch : MethodName := ⟨"BlinkerCrossModel", "fillsSearch", "(I)V"⟩
abbrev Y_M_fillsSearch : Yt := (prog_14_method_106_code, 6, "BlinkerCrossModel", 0, none, "fillsSearch")
theorem d_M_fillsSearch_0 : decode prog_14_method_106_code 0 = .ok (.iconst 1, 1) := by decide +kernel
theorem d_M_fillsSearch_1 : decode prog_14_method_106_code 1 = .ok (.istore_n 2, 1) := by decide +kernel
theorem d_M_fillsSearch_2 : decode prog_14_method_106_code 2 = .ok (.iconst 1, 1) := by decide +kernel
theorem d_M_fillsSearch_3 : decode prog_14_method_106_code 3 = .ok (.istore_n 3, 1) := by decide +kernel
theorem d_M_fillsSearch_4 : decode prog_14_method_106_code 4 = .ok (.iload_n 3, 1) := by decide +kernel
theorem d_M_fillsSearch_5 : decode prog_14_method_106_code 5 = .ok (.bipush 7, 2) := by decide +kernel
theorem d_M_fillsSearch_7 : decode prog_14_method_106_code 7 = .ok (.if_icmp .ge 86, 3) := by decide +kernel
theorem d_M_fillsSearch_10 : decode prog_14_method_106_code 10 = .ok (.bipush (-10), 2) := by decide +kernel
theorem d_M_fillsSearch_12 : decode prog_14_method_106_code 12 = .ok (.iload_n 1, 1) := by decide +kernel
theorem d_M_fillsSearch_13 : decode prog_14_method_106_code 13 = .ok (.imul, 1) := by decide +kernel
theorem d_M_fillsSearch_14 : decode prog_14_method_106_code 14 = .ok (.iload_n 2, 1) := by decide +kernel
theorem d_M_fillsSearch_15 : decode prog_14_method_106_code 15 = .ok (.imul, 1) := by decide +kernel
theorem d_M_fillsSearch_16 : decode prog_14_method_106_code 16 = .ok (.istore 4, 2) := by decide +kernel
theorem d_M_fillsSearch_18 : decode prog_14_method_106_code 18 = .ok (.iconst 0, 1) := by decide +kernel
theorem d_M_fillsSearch_19 : decode prog_14_method_106_code 19 = .ok (.istore 5, 2) := by decide +kernel
theorem d_M_fillsSearch_21 : decode prog_14_method_106_code 21 = .ok (.iload 5, 2) := by decide +kernel
theorem d_M_fillsSearch_23 : decode prog_14_method_106_code 23 = .ok (.bipush 10, 2) := by decide +kernel
theorem d_M_fillsSearch_25 : decode prog_14_method_106_code 25 = .ok (.if_icmp .ge 49, 3) := by decide +kernel
theorem d_M_fillsSearch_28 : decode prog_14_method_106_code 28 = .ok (.iload 4, 2) := by decide +kernel
theorem d_M_fillsSearch_30 : decode prog_14_method_106_code 30 = .ok (.iload_n 3, 1) := by decide +kernel
theorem d_M_fillsSearch_31 : decode prog_14_method_106_code 31 = .ok (.iconst 1, 1) := by decide +kernel
theorem d_M_fillsSearch_32 : decode prog_14_method_106_code 32 = .ok (.if_icmp .le 29, 3) := by decide +kernel
theorem d_M_fillsSearch_35 : decode prog_14_method_106_code 35 = .ok (.aload_n 0, 1) := by decide +kernel
theorem d_M_fillsSearch_36 : decode prog_14_method_106_code 36 = .ok (.getfield 143, 3) := by decide +kernel
theorem d_M_fillsSearch_39 : decode prog_14_method_106_code 39 = .ok (.iload_n 3, 1) := by decide +kernel
theorem d_M_fillsSearch_40 : decode prog_14_method_106_code 40 = .ok (.iconst 1, 1) := by decide +kernel
theorem d_M_fillsSearch_41 : decode prog_14_method_106_code 41 = .ok (.isub, 1) := by decide +kernel
theorem d_M_fillsSearch_42 : decode prog_14_method_106_code 42 = .ok (.iaload, 1) := by decide +kernel
theorem d_M_fillsSearch_43 : decode prog_14_method_106_code 43 = .ok (.iload 5, 2) := by decide +kernel
theorem d_M_fillsSearch_45 : decode prog_14_method_106_code 45 = .ok (.iload_n 2, 1) := by decide +kernel
theorem d_M_fillsSearch_46 : decode prog_14_method_106_code 46 = .ok (.imul, 1) := by decide +kernel
theorem d_M_fillsSearch_47 : decode prog_14_method_106_code 47 = .ok (.if_icmp .le 14, 3) := by decide +kernel
theorem d_M_fillsSearch_50 : decode prog_14_method_106_code 50 = .ok (.aload_n 0, 1) := by decide +kernel
theorem d_M_fillsSearch_51 : decode prog_14_method_106_code 51 = .ok (.getfield 143, 3) := by decide +kernel
theorem d_M_fillsSearch_54 : decode prog_14_method_106_code 54 = .ok (.iload_n 3, 1) := by decide +kernel
theorem d_M_fillsSearch_55 : decode prog_14_method_106_code 55 = .ok (.iconst 1, 1) := by decide +kernel
theorem d_M_fillsSearch_56 : decode prog_14_method_106_code 56 = .ok (.isub, 1) := by decide +kernel
theorem d_M_fillsSearch_57 : decode prog_14_method_106_code 57 = .ok (.iaload, 1) := by decide +kernel
theorem d_M_fillsSearch_58 : decode prog_14_method_106_code 58 = .ok (.goto 7, 3) := by decide +kernel
theorem d_M_fillsSearch_61 : decode prog_14_method_106_code 61 = .ok (.iload 5, 2) := by decide +kernel
theorem d_M_fillsSearch_63 : decode prog_14_method_106_code 63 = .ok (.iload_n 2, 1) := by decide +kernel
theorem d_M_fillsSearch_64 : decode prog_14_method_106_code 64 = .ok (.imul, 1) := by decide +kernel
theorem d_M_fillsSearch_65 : decode prog_14_method_106_code 65 = .ok (.iadd, 1) := by decide +kernel
theorem d_M_fillsSearch_66 : decode prog_14_method_106_code 66 = .ok (.istore 4, 2) := by decide +kernel
theorem d_M_fillsSearch_68 : decode prog_14_method_106_code 68 = .ok (.iinc 5 1, 3) := by decide +kernel
theorem d_M_fillsSearch_71 : decode prog_14_method_106_code 71 = .ok (.goto (-50), 3) := by decide +kernel
theorem d_M_fillsSearch_74 : decode prog_14_method_106_code 74 = .ok (.aload_n 0, 1) := by decide +kernel
theorem d_M_fillsSearch_75 : decode prog_14_method_106_code 75 = .ok (.getfield 143, 3) := by decide +kernel
theorem d_M_fillsSearch_78 : decode prog_14_method_106_code 78 = .ok (.iload_n 3, 1) := by decide +kernel
theorem d_M_fillsSearch_79 : decode prog_14_method_106_code 79 = .ok (.iload 4, 2) := by decide +kernel
theorem d_M_fillsSearch_81 : decode prog_14_method_106_code 81 = .ok (.iastore, 1) := by decide +kernel
theorem d_M_fillsSearch_82 : decode prog_14_method_106_code 82 = .ok (.iload_n 2, 1) := by decide +kernel
theorem d_M_fillsSearch_83 : decode prog_14_method_106_code 83 = .ok (.bipush 10, 2) := by decide +kernel
theorem d_M_fillsSearch_85 : decode prog_14_method_106_code 85 = .ok (.imul, 1) := by decide +kernel
theorem d_M_fillsSearch_86 : decode prog_14_method_106_code 86 = .ok (.istore_n 2, 1) := by decide +kernel
theorem d_M_fillsSearch_87 : decode prog_14_method_106_code 87 = .ok (.iinc 3 1, 3) := by decide +kernel
theorem d_M_fillsSearch_90 : decode prog_14_method_106_code 90 = .ok (.goto (-86), 3) := by decide +kernel
theorem d_M_fillsSearch_93 : decode prog_14_method_106_code 93 = .ok (.return_, 1) := by decide +kernel
noncomputable def Lc_M_fillsSearch_1 : Xp Bool := o2 (fun x y => decide (x < y)) (vI 5) (kI (ii 10))
noncomputable def Lb_M_fillsSearch_1 : Sm := sSet 4 (asV Value.int (o2 (fun x y => x + y) (vI 4) (iX (cAnd (o2 (fun x y => decide (x > y)) (vI 3) (kI (ii 1))) (o2 (fun x y => decide (x > y)) (aI 0 (gR 12 66 (vR 0)) (o2 (fun x y => x - y) (vI 3) (kI (ii 1)))) (o2 (fun x y => x * y) (vI 5) (vI 2)))) (aI 0 (gR 12 66 (vR 0)) (o2 (fun x y => x - y) (vI 3) (kI (ii 1)))) (o2 (fun x y => x * y) (vI 5) (vI 2)))))
noncomputable def Lu_M_fillsSearch_1 : Sm := sInc 5 (ii 1)
noncomputable def Lc_M_fillsSearch_2 : Xp Bool := o2 (fun x y => decide (x < y)) (vI 3) (kI (ii 7))
noncomputable def Lb_M_fillsSearch_2 : Sm := sBlk 4 (sSeq (sDecl (asV Value.int (o2 (fun x y => x * y) (o2 (fun x y => x * y) (kI (ii (-10))) (vI 1)) (vI 2)))) (sSeq (sBlk 5 (sSeq (sDecl (asV Value.int (kI (ii 0)))) (sWh (Lc_M_fillsSearch_1) (Lb_M_fillsSearch_1) Lu_M_fillsSearch_1))) (sSeq (sAst 0 (gR 12 66 (vR 0)) (vI 3) (vI 4)) (sSet 2 (asV Value.int (o2 (fun x y => x * y) (vI 2) (kI (ii 10))))))))
noncomputable def Lu_M_fillsSearch_2 : Sm := sInc 3 (ii 1)
noncomputable def F_M_fillsSearch : Sm := sSeq (sDecl (asV Value.int (kI (ii 1)))) (sSeq (sBlk 3 (sSeq (sDecl (asV Value.int (kI (ii 1)))) (sWh (Lc_M_fillsSearch_2) (Lb_M_fillsSearch_2) Lu_M_fillsSearch_2))) (sRetV))
theorem mf_M_fillsSearch : Mf y_M_fillsSearch prog_14_method_106_code 6 none 1 := ⟨tw_1970, tw_134, by decide +kernel⟩
noncomputable def D_M_fillsSearch : Dn := runS [1, 1] F_M_fillsSearch
theorem ok_M_fillsSearch : MOK y_M_fillsSearch prog_14_method_106_code 6 none 0 0 0 D_M_fillsSearch := MOK.of (by decide) (by decide) (show SO Y_M_fillsSearch [(0, 1), (1, 1)] [(0, 1), (1, 1), (2, 1)] 0 94 (([], 0), ([], 0)) F_M_fillsSearch from
  (s_seq (sl1 := [(0, 1), (1, 1), (2, 1)]) (p1 := 2) (s_decl (p1 := 1) (e_iconst d_M_fillsSearch_0 (by decide)) (t_istore_n d_M_fillsSearch_1 rfl (by decide)) rfl) (s_seq (sl1 := [(0, 1), (1, 1), (2, 1)]) (p1 := 93) (s_blk (sl1 := [(0, 1), (1, 1), (2, 1), (3, 1)]) (s_seq (sl1 := [(0, 1), (1, 1), (2, 1), (3, 1)]) (p1 := 4) (s_decl (p1 := 3) (e_iconst d_M_fillsSearch_2 (by decide)) (t_istore_n d_M_fillsSearch_3 rfl (by decide)) rfl) (s_for (pt := 10) (pu := 87) (pf := 93) (pg := 0) (c_icmp_geF (p1 := 5) (p2 := 7) (tg := 93) (e_iload_n (k0 := 3) d_M_fillsSearch_4 rfl rfl) (e_bipush d_M_fillsSearch_5 (by decide)) d_M_fillsSearch_7 rfl) (s_blk (sl1 := [(0, 1), (1, 1), (2, 1), (3, 1), (4, 1)]) (s_seq (sl1 := [(0, 1), (1, 1), (2, 1), (3, 1), (4, 1)]) (p1 := 18) (s_decl (p1 := 16) (e_imul (p1 := 14) (p2 := 15) (e_imul (p1 := 12) (p2 := 13) (e_bipush d_M_fillsSearch_10 (by decide)) (e_iload_n (k0 := 1) d_M_fillsSearch_12 rfl rfl) d_M_fillsSearch_13) (e_iload_n (k0 := 2) d_M_fillsSearch_14 rfl rfl) d_M_fillsSearch_15) (t_istore d_M_fillsSearch_16 (by decide)) rfl) (s_seq (sl1 := [(0, 1), (1, 1), (2, 1), (3, 1), (4, 1)]) (p1 := 74) (s_blk (sl1 := [(0, 1), (1, 1), (2, 1), (3, 1), (4, 1), (5, 1)]) (s_seq (sl1 := [(0, 1), (1, 1), (2, 1), (3, 1), (4, 1), (5, 1)]) (p1 := 21) (s_decl (p1 := 19) (e_iconst d_M_fillsSearch_18 (by decide)) (t_istore d_M_fillsSearch_19 (by decide)) rfl) (s_for (pt := 28) (pu := 68) (pf := 74) (pg := 0) (c_icmp_geF (p1 := 23) (p2 := 25) (tg := 74) (e_iload (k0 := 5) d_M_fillsSearch_21 rfl) (e_bipush d_M_fillsSearch_23 (by decide)) d_M_fillsSearch_25 rfl) (s_set (k0 := 4) (p1 := 66) (e_iadd (p1 := 30) (p2 := 65) (e_iload (k0 := 4) d_M_fillsSearch_28 rfl) (e_ite (pt := 50) (p1 := 58) (pf := 61) (c_and (p1 := 35) (c_icmp_leF (p1 := 31) (p2 := 32) (tg := 61) (e_iload_n (k0 := 3) d_M_fillsSearch_30 rfl rfl) (e_iconst d_M_fillsSearch_31 (by decide)) d_M_fillsSearch_32 rfl) (c_icmp_leF (p1 := 43) (p2 := 47) (tg := 61) (e_iald (p1 := 39) (p2 := 42) (e_gR (k0 := 66) (p1 := 36) cf_12 (e_aload_n (k0 := 0) d_M_fillsSearch_35 rfl rfl) (by decide) tw_1426 d_M_fillsSearch_36) (e_isub (p1 := 40) (p2 := 41) (e_iload_n (k0 := 3) d_M_fillsSearch_39 rfl rfl) (e_iconst d_M_fillsSearch_40 (by decide)) d_M_fillsSearch_41) d_M_fillsSearch_42) (e_imul (p1 := 45) (p2 := 46) (e_iload (k0 := 5) d_M_fillsSearch_43 rfl) (e_iload_n (k0 := 2) d_M_fillsSearch_45 rfl rfl) d_M_fillsSearch_46) d_M_fillsSearch_47 rfl)) (e_iald (p1 := 54) (p2 := 57) (e_gR (k0 := 66) (p1 := 51) cf_12 (e_aload_n (k0 := 0) d_M_fillsSearch_50 rfl rfl) (by decide) tw_1426 d_M_fillsSearch_51) (e_isub (p1 := 55) (p2 := 56) (e_iload_n (k0 := 3) d_M_fillsSearch_54 rfl rfl) (e_iconst d_M_fillsSearch_55 (by decide)) d_M_fillsSearch_56) d_M_fillsSearch_57) d_M_fillsSearch_58 rfl (e_imul (p1 := 63) (p2 := 64) (e_iload (k0 := 5) d_M_fillsSearch_61 rfl) (e_iload_n (k0 := 2) d_M_fillsSearch_63 rfl rfl) d_M_fillsSearch_64)) d_M_fillsSearch_65) (t_istore d_M_fillsSearch_66 (by decide)) rfl rfl) (s_goto (p1 := 71) (s_inc (k0 := 5) d_M_fillsSearch_68 rfl rfl (Nat.le_of_ble_eq_true rfl) rfl) d_M_fillsSearch_71 rfl))) rfl) (s_seq (sl1 := [(0, 1), (1, 1), (2, 1), (3, 1), (4, 1)]) (p1 := 82) (s_ast (p1 := 78) (p2 := 79) (p3 := 81) (e_gR (k0 := 66) (p1 := 75) cf_12 (e_aload_n (k0 := 0) d_M_fillsSearch_74 rfl rfl) (by decide) tw_1426 d_M_fillsSearch_75) (e_iload_n (k0 := 3) d_M_fillsSearch_78 rfl rfl) (e_iload (k0 := 4) d_M_fillsSearch_79 rfl) (as_i d_M_fillsSearch_81)) (s_set (k0 := 2) (p1 := 86) (e_imul (p1 := 83) (p2 := 85) (e_iload_n (k0 := 2) d_M_fillsSearch_82 rfl rfl) (e_bipush d_M_fillsSearch_83 (by decide)) d_M_fillsSearch_85) (t_istore_n d_M_fillsSearch_86 rfl (by decide)) rfl rfl)))) rfl) (s_goto (p1 := 90) (s_inc (k0 := 3) d_M_fillsSearch_87 rfl rfl (Nat.le_of_ble_eq_true rfl) rfl) d_M_fillsSearch_90 rfl))) rfl) (s_retV rfl d_M_fillsSearch_93))))
/-! BlinkerCrossModel.isSearch(II)Z -/
abbrev y_M_isSearch : MethodName := ⟨"BlinkerCrossModel", "isSearch", "(II)Z"⟩
abbrev Y_M_isSearch : Yt := (prog_14_method_107_code, 2, "BlinkerCrossModel", 1, (some .boolean), "isSearch")
theorem d_M_isSearch_0 : decode prog_14_method_107_code 0 = .ok (.iload_n 0, 1) := by decide +kernel
theorem d_M_isSearch_1 : decode prog_14_method_107_code 1 = .ok (.iconst 1, 1) := by decide +kernel
theorem d_M_isSearch_2 : decode prog_14_method_107_code 2 = .ok (.bipush 6, 2) := by decide +kernel
theorem d_M_isSearch_4 : decode prog_14_method_107_code 4 = .ok (.invokestatic 319, 3) := by decide +kernel
theorem d_M_isSearch_7 : decode prog_14_method_107_code 7 = .ok (.ifCond .eq 17, 3) := by decide +kernel
theorem d_M_isSearch_10 : decode prog_14_method_107_code 10 = .ok (.iload_n 1, 1) := by decide +kernel
theorem d_M_isSearch_11 : decode prog_14_method_107_code 11 = .ok (.iconst 0, 1) := by decide +kernel
theorem d_M_isSearch_12 : decode prog_14_method_107_code 12 = .ok (.bipush 9, 2) := by decide +kernel
theorem d_M_isSearch_14 : decode prog_14_method_107_code 14 = .ok (.invokestatic 319, 3) := by decide +kernel
theorem d_M_isSearch_17 : decode prog_14_method_107_code 17 = .ok (.ifCond .eq 7, 3) := by decide +kernel
theorem d_M_isSearch_20 : decode prog_14_method_107_code 20 = .ok (.iconst 1, 1) := by decide +kernel
theorem d_M_isSearch_21 : decode prog_14_method_107_code 21 = .ok (.goto 4, 3) := by decide +kernel
theorem d_M_isSearch_24 : decode prog_14_method_107_code 24 = .ok (.iconst 0, 1) := by decide +kernel
theorem d_M_isSearch_25 : decode prog_14_method_107_code 25 = .ok (.ireturn, 1) := by decide +kernel
noncomputable def F_M_isSearch : Sm := sRetZ (bX (cAnd (o1 (fun x => decide (x ≠ 0)) (cI (D_M_in) [asV Value.int (vI 0), asV Value.int (kI (ii 1)), asV Value.int (kI (ii 6))])) (o1 (fun x => decide (x ≠ 0)) (cI (D_M_in) [asV Value.int (vI 1), asV Value.int (kI (ii 0)), asV Value.int (kI (ii 9))]))))
theorem mf_M_isSearch : Mf y_M_isSearch prog_14_method_107_code 2 (some .boolean) 2 := ⟨tw_1965, tw_134, by decide +kernel⟩
noncomputable def D_M_isSearch : Dn := runS [1, 1] F_M_isSearch
theorem ok_M_isSearch : MOK y_M_isSearch prog_14_method_107_code 2 (some .boolean) 1 0 0 D_M_isSearch := MOK.of (by decide) (by decide) (show SO Y_M_isSearch [(0, 1), (1, 1)] [(0, 1), (1, 1)] 0 26 (([], 0), ([], 0)) F_M_isSearch from
  (s_retZ (p1 := 25) (e_bool (pt := 20) (pf := 24) (c_and (p1 := 10) (c_if_eqF (p1 := 7) (tg := 24) (e_cI (p1 := 4) (a_cons (ι := Value.int) (k0 := 1) (p1 := 1) (fun _ => rfl) (e_iload_n (k0 := 0) d_M_isSearch_0 rfl rfl) (a_cons (ι := Value.int) (k0 := 1) (p1 := 2) (fun _ => rfl) (e_iconst d_M_isSearch_1 (by decide)) (a_cons (ι := Value.int) (k0 := 1) (p1 := 4) (fun _ => rfl) (e_bipush d_M_isSearch_2 (by decide)) a_nil))) (k_stat ok_M_in mf_M_in tw_1703 tw_1702 d_M_isSearch_4 (by decide) (by decide) (by decide))) d_M_isSearch_7 rfl) (c_if_eqF (p1 := 17) (tg := 24) (e_cI (p1 := 14) (a_cons (ι := Value.int) (k0 := 1) (p1 := 11) (fun _ => rfl) (e_iload_n (k0 := 1) d_M_isSearch_10 rfl rfl) (a_cons (ι := Value.int) (k0 := 1) (p1 := 12) (fun _ => rfl) (e_iconst d_M_isSearch_11 (by decide)) (a_cons (ι := Value.int) (k0 := 1) (p1 := 14) (fun _ => rfl) (e_bipush d_M_isSearch_12 (by decide)) a_nil))) (k_stat ok_M_in mf_M_in tw_1703 tw_1702 d_M_isSearch_14 (by decide) (by decide) (by decide))) d_M_isSearch_17 rfl)) d_M_isSearch_20 d_M_isSearch_21 rfl d_M_isSearch_24 rfl) rfl d_M_isSearch_25))
/-! BlinkerCrossModel.search(II)I -/
abbrev y_M_search : MethodName := ⟨"BlinkerCrossModel", "search", "(II)I"⟩
abbrev Y_M_search : Yt := (prog_14_method_108_code, 3, "BlinkerCrossModel", 2, (some .int), "search")
theorem d_M_search_0 : decode prog_14_method_108_code 0 = .ok (.iload_n 1, 1) := by decide +kernel
theorem d_M_search_1 : decode prog_14_method_108_code 1 = .ok (.iload_n 2, 1) := by decide +kernel
theorem d_M_search_2 : decode prog_14_method_108_code 2 = .ok (.invokestatic 494, 3) := by decide +kernel
theorem d_M_search_5 : decode prog_14_method_108_code 5 = .ok (.ifCond .ne 7, 3) := by decide +kernel
theorem d_M_search_8 : decode prog_14_method_108_code 8 = .ok (.ldc_w 497, 3) := by decide +kernel
theorem d_M_search_11 : decode prog_14_method_108_code 11 = .ok (.ireturn, 1) := by decide +kernel
theorem d_M_search_12 : decode prog_14_method_108_code 12 = .ok (.aload_n 0, 1) := by decide +kernel
theorem d_M_search_13 : decode prog_14_method_108_code 13 = .ok (.iload_n 2, 1) := by decide +kernel
theorem d_M_search_14 : decode prog_14_method_108_code 14 = .ok (.invokevirtual 498, 3) := by decide +kernel
theorem d_M_search_17 : decode prog_14_method_108_code 17 = .ok (.aload_n 0, 1) := by decide +kernel
theorem d_M_search_18 : decode prog_14_method_108_code 18 = .ok (.getfield 143, 3) := by decide +kernel
theorem d_M_search_21 : decode prog_14_method_108_code 21 = .ok (.iload_n 1, 1) := by decide +kernel
theorem d_M_search_22 : decode prog_14_method_108_code 22 = .ok (.iaload, 1) := by decide +kernel
theorem d_M_search_23 : decode prog_14_method_108_code 23 = .ok (.ireturn, 1) := by decide +kernel
noncomputable def F_M_search : Sm := sSeq (sIf (cNot (o1 (fun x => decide (x ≠ 0)) (cI (D_M_isSearch) [asV Value.int (vI 1), asV Value.int (vI 2)]))) (sRet (asV Value.int (kI (ii (-100000000))))) (sSkip)) (sSeq (sCall (mV 12 D_M_fillsSearch) [asV Value.ref (vR 0), asV Value.int (vI 2)]) (sRet (asV Value.int (aI 0 (gR 12 66 (vR 0)) (vI 1)))))
theorem mf_M_search : Mf y_M_search prog_14_method_108_code 3 (some .int) 2 := ⟨tw_1962, tw_134, by decide +kernel⟩
noncomputable def D_M_search : Dn := runS [1, 1, 1] F_M_search
theorem ok_M_search : MOK y_M_search prog_14_method_108_code 3 (some .int) 2 0 0 D_M_search := MOK.of (by decide) (by decide) (show SO Y_M_search [(0, 1), (1, 1), (2, 1)] [(0, 1), (1, 1), (2, 1)] 0 24 (([], 0), ([], 0)) F_M_search from
  (s_seq (sl1 := [(0, 1), (1, 1), (2, 1)]) (p1 := 12) (s_if (pt := 8) (pf := 12) (c_not (c_if_neT (p1 := 5) (tg := 12) (e_cI (p1 := 2) (a_cons (ι := Value.int) (k0 := 1) (p1 := 1) (fun _ => rfl) (e_iload_n (k0 := 1) d_M_search_0 rfl rfl) (a_cons (ι := Value.int) (k0 := 1) (p1 := 2) (fun _ => rfl) (e_iload_n (k0 := 2) d_M_search_1 rfl rfl) a_nil)) (k_stat ok_M_isSearch mf_M_isSearch tw_1964 tw_1963 d_M_search_2 (by decide) (by decide) (by decide))) d_M_search_5 rfl)) (s_ret (p1 := 11) (e_ldcw d_M_search_8 tw_1966) rfl d_M_search_11) s_skip) (s_seq (sl1 := [(0, 1), (1, 1), (2, 1)]) (p1 := 17) (s_call (p1 := 14) (a_cons (ι := Value.ref) (k0 := 1) (p1 := 13) (fun _ => rfl) (e_aload_n (k0 := 0) d_M_search_12 rfl rfl) (a_cons (ι := Value.int) (k0 := 1) (p1 := 14) (fun _ => rfl) (e_iload_n (k0 := 2) d_M_search_13 rfl rfl) a_nil)) (k_virt ok_M_fillsSearch mf_M_fillsSearch ⟨tw_1969, tw_117⟩ rfl tw_1967 d_M_search_14 (by decide) (by decide) (by decide))) (s_ret (p1 := 23) (e_iald (p1 := 21) (p2 := 22) (e_gR (k0 := 66) (p1 := 18) cf_12 (e_aload_n (k0 := 0) d_M_search_17 rfl rfl) (by decide) tw_1426 d_M_search_18) (e_iload_n (k0 := 1) d_M_search_21 rfl rfl) d_M_search_22) rfl d_M_search_23))))
/-! BlinkerCrossModel.bar(II)I -/
abbrev y_M_bar : MethodName := ⟨"BlinkerCrossModel", "bar", "(II)I"⟩
abbrev Y_M_bar : Yt := (prog_14_method_109_code, 4, "BlinkerCrossModel", 2, (some .int), "bar")
theorem d_M_bar_0 : decode prog_14_method_109_code 0 = .ok (.iload_n 1, 1) := by decide +kernel
theorem d_M_bar_1 : decode prog_14_method_109_code 1 = .ok (.iload_n 2, 1) := by decide +kernel
theorem d_M_bar_2 : decode prog_14_method_109_code 2 = .ok (.invokestatic 494, 3) := by decide +kernel
theorem d_M_bar_5 : decode prog_14_method_109_code 5 = .ok (.ifCond .ne 5, 3) := by decide +kernel
theorem d_M_bar_8 : decode prog_14_method_109_code 8 = .ok (.iconst (-1), 1) := by decide +kernel
theorem d_M_bar_9 : decode prog_14_method_109_code 9 = .ok (.ireturn, 1) := by decide +kernel
theorem d_M_bar_10 : decode prog_14_method_109_code 10 = .ok (.iload_n 1, 1) := by decide +kernel
theorem d_M_bar_11 : decode prog_14_method_109_code 11 = .ok (.iconst 1, 1) := by decide +kernel
theorem d_M_bar_12 : decode prog_14_method_109_code 12 = .ok (.if_icmp .ne 5, 3) := by decide +kernel
theorem d_M_bar_15 : decode prog_14_method_109_code 15 = .ok (.iconst 0, 1) := by decide +kernel
theorem d_M_bar_16 : decode prog_14_method_109_code 16 = .ok (.ireturn, 1) := by decide +kernel
theorem d_M_bar_17 : decode prog_14_method_109_code 17 = .ok (.aload_n 0, 1) := by decide +kernel
theorem d_M_bar_18 : decode prog_14_method_109_code 18 = .ok (.iload_n 2, 1) := by decide +kernel
theorem d_M_bar_19 : decode prog_14_method_109_code 19 = .ok (.invokevirtual 498, 3) := by decide +kernel
theorem d_M_bar_22 : decode prog_14_method_109_code 22 = .ok (.iconst 0, 1) := by decide +kernel
theorem d_M_bar_23 : decode prog_14_method_109_code 23 = .ok (.istore_n 3, 1) := by decide +kernel
theorem d_M_bar_24 : decode prog_14_method_109_code 24 = .ok (.iload_n 3, 1) := by decide +kernel
theorem d_M_bar_25 : decode prog_14_method_109_code 25 = .ok (.bipush 10, 2) := by decide +kernel
theorem d_M_bar_27 : decode prog_14_method_109_code 27 = .ok (.if_icmp .ge 30, 3) := by decide +kernel
theorem d_M_bar_30 : decode prog_14_method_109_code 30 = .ok (.iload_n 3, 1) := by decide +kernel
theorem d_M_bar_31 : decode prog_14_method_109_code 31 = .ok (.bipush 10, 2) := by decide +kernel
theorem d_M_bar_33 : decode prog_14_method_109_code 33 = .ok (.iload_n 1, 1) := by decide +kernel
theorem d_M_bar_34 : decode prog_14_method_109_code 34 = .ok (.iconst 1, 1) := by decide +kernel
theorem d_M_bar_35 : decode prog_14_method_109_code 35 = .ok (.isub, 1) := by decide +kernel
theorem d_M_bar_36 : decode prog_14_method_109_code 36 = .ok (.invokestatic 435, 3) := by decide +kernel
theorem d_M_bar_39 : decode prog_14_method_109_code 39 = .ok (.imul, 1) := by decide +kernel
theorem d_M_bar_40 : decode prog_14_method_109_code 40 = .ok (.aload_n 0, 1) := by decide +kernel
theorem d_M_bar_41 : decode prog_14_method_109_code 41 = .ok (.getfield 143, 3) := by decide +kernel
theorem d_M_bar_44 : decode prog_14_method_109_code 44 = .ok (.iload_n 1, 1) := by decide +kernel
theorem d_M_bar_45 : decode prog_14_method_109_code 45 = .ok (.iconst 1, 1) := by decide +kernel
theorem d_M_bar_46 : decode prog_14_method_109_code 46 = .ok (.isub, 1) := by decide +kernel
theorem d_M_bar_47 : decode prog_14_method_109_code 47 = .ok (.iaload, 1) := by decide +kernel
theorem d_M_bar_48 : decode prog_14_method_109_code 48 = .ok (.if_icmp .ge 9, 3) := by decide +kernel
theorem d_M_bar_51 : decode prog_14_method_109_code 51 = .ok (.iinc 3 1, 3) := by decide +kernel
theorem d_M_bar_54 : decode prog_14_method_109_code 54 = .ok (.goto (-30), 3) := by decide +kernel
theorem d_M_bar_57 : decode prog_14_method_109_code 57 = .ok (.iload_n 3, 1) := by decide +kernel
theorem d_M_bar_58 : decode prog_14_method_109_code 58 = .ok (.ireturn, 1) := by decide +kernel
noncomputable def Lc_M_bar_1 : Xp Bool := cAnd (o2 (fun x y => decide (x < y)) (vI 3) (kI (ii 10))) (o2 (fun x y => decide (x < y)) (o2 (fun x y => x * y) (vI 3) (cI (D_M_power) [asV Value.int (kI (ii 10)), asV Value.int (o2 (fun x y => x - y) (vI 1) (kI (ii 1)))])) (aI 0 (gR 12 66 (vR 0)) (o2 (fun x y => x - y) (vI 1) (kI (ii 1)))))
noncomputable def Lb_M_bar_1 : Sm := sInc 3 (ii 1)
noncomputable def Lu_M_bar_1 : Sm := sSkip
noncomputable def F_M_bar : Sm := sSeq (sIf (cNot (o1 (fun x => decide (x ≠ 0)) (cI (D_M_isSearch) [asV Value.int (vI 1), asV Value.int (vI 2)]))) (sRet (asV Value.int (kI (ii (-1))))) (sSkip)) (sSeq (sIf (o2 (fun x y => decide (x = y)) (vI 1) (kI (ii 1))) (sRet (asV Value.int (kI (ii 0)))) (sSkip)) (sSeq (sCall (mV 12 D_M_fillsSearch) [asV Value.ref (vR 0), asV Value.int (vI 2)]) (sSeq (sDecl (asV Value.int (kI (ii 0)))) (sSeq (sWh (Lc_M_bar_1) (Lb_M_bar_1) Lu_M_bar_1) (sRet (asV Value.int (vI 3)))))))
theorem mf_M_bar : Mf y_M_bar prog_14_method_109_code 4 (some .int) 2 := ⟨tw_1974, tw_134, by decide +kernel⟩
noncomputable def D_M_bar : Dn := runS [1, 1, 1] F_M_bar
theorem ok_M_bar : MOK y_M_bar prog_14_method_109_code 4 (some .int) 2 0 0 D_M_bar := MOK.of (by decide) (by decide) (show SO Y_M_bar [(0, 1), (1, 1), (2, 1)] [(0, 1), (1, 1), (2, 1), (3, 1)] 0 59 (([], 0), ([], 0)) F_M_bar from
  (s_seq (sl1 := [(0, 1), (1, 1), (2, 1)]) (p1 := 10) (s_if (pt := 8) (pf := 10) (c_not (c_if_neT (p1 := 5) (tg := 10) (e_cI (p1 := 2) (a_cons (ι := Value.int) (k0 := 1) (p1 := 1) (fun _ => rfl) (e_iload_n (k0 := 1) d_M_bar_0 rfl rfl) (a_cons (ι := Value.int) (k0 := 1) (p1 := 2) (fun _ => rfl) (e_iload_n (k0 := 2) d_M_bar_1 rfl rfl) a_nil)) (k_stat ok_M_isSearch mf_M_isSearch tw_1964 tw_1963 d_M_bar_2 (by decide) (by decide) (by decide))) d_M_bar_5 rfl)) (s_ret (p1 := 9) (e_iconst d_M_bar_8 (by decide)) rfl d_M_bar_9) s_skip) (s_seq (sl1 := [(0, 1), (1, 1), (2, 1)]) (p1 := 17) (s_if (pt := 15) (pf := 17) (c_icmp_neF (p1 := 11) (p2 := 12) (tg := 17) (e_iload_n (k0 := 1) d_M_bar_10 rfl rfl) (e_iconst d_M_bar_11 (by decide)) d_M_bar_12 rfl) (s_ret (p1 := 16) (e_iconst d_M_bar_15 (by decide)) rfl d_M_bar_16) s_skip) (s_seq (sl1 := [(0, 1), (1, 1), (2, 1)]) (p1 := 22) (s_call (p1 := 19) (a_cons (ι := Value.ref) (k0 := 1) (p1 := 18) (fun _ => rfl) (e_aload_n (k0 := 0) d_M_bar_17 rfl rfl) (a_cons (ι := Value.int) (k0 := 1) (p1 := 19) (fun _ => rfl) (e_iload_n (k0 := 2) d_M_bar_18 rfl rfl) a_nil)) (k_virt ok_M_fillsSearch mf_M_fillsSearch ⟨tw_1969, tw_117⟩ rfl tw_1967 d_M_bar_19 (by decide) (by decide) (by decide))) (s_seq (sl1 := [(0, 1), (1, 1), (2, 1), (3, 1)]) (p1 := 24) (s_decl (p1 := 23) (e_iconst d_M_bar_22 (by decide)) (t_istore_n d_M_bar_23 rfl (by decide)) rfl) (s_seq (sl1 := [(0, 1), (1, 1), (2, 1), (3, 1)]) (p1 := 57) (s_for (pt := 51) (pu := 24) (pf := 57) (pg := 0) (c_and (p1 := 30) (c_icmp_geF (p1 := 25) (p2 := 27) (tg := 57) (e_iload_n (k0 := 3) d_M_bar_24 rfl rfl) (e_bipush d_M_bar_25 (by decide)) d_M_bar_27 rfl) (c_icmp_geF (p1 := 40) (p2 := 48) (tg := 57) (e_imul (p1 := 31) (p2 := 39) (e_iload_n (k0 := 3) d_M_bar_30 rfl rfl) (e_cI (p1 := 36) (a_cons (ι := Value.int) (k0 := 1) (p1 := 33) (fun _ => rfl) (e_bipush d_M_bar_31 (by decide)) (a_cons (ι := Value.int) (k0 := 1) (p1 := 36) (fun _ => rfl) (e_isub (p1 := 34) (p2 := 35) (e_iload_n (k0 := 1) d_M_bar_33 rfl rfl) (e_iconst d_M_bar_34 (by decide)) d_M_bar_35) a_nil)) (k_stat ok_M_power mf_M_power tw_1881 tw_1880 d_M_bar_36 (by decide) (by decide) (by decide))) d_M_bar_39) (e_iald (p1 := 44) (p2 := 47) (e_gR (k0 := 66) (p1 := 41) cf_12 (e_aload_n (k0 := 0) d_M_bar_40 rfl rfl) (by decide) tw_1426 d_M_bar_41) (e_isub (p1 := 45) (p2 := 46) (e_iload_n (k0 := 1) d_M_bar_44 rfl rfl) (e_iconst d_M_bar_45 (by decide)) d_M_bar_46) d_M_bar_47) d_M_bar_48 rfl)) (s_goto (p1 := 54) (s_inc (k0 := 3) d_M_bar_51 rfl rfl (Nat.le_of_ble_eq_true rfl) rfl) d_M_bar_54 rfl) s_skip) (s_ret (p1 := 58) (e_iload_n (k0 := 3) d_M_bar_57 rfl rfl) rfl d_M_bar_58)))))))
/-! BlinkerCrossModel.enough(II)I -/
abbrev y_M_enough : MethodName := ⟨"BlinkerCrossModel", "enough", "(II)I"⟩
abbrev Y_M_enough : Yt := (prog_14_method_110_code, 4, "BlinkerCrossModel", 4, (some .int), "enough")
theorem d_M_enough_0 : decode prog_14_method_110_code 0 = .ok (.aload_n 0, 1) := by decide +kernel
theorem d_M_enough_1 : decode prog_14_method_110_code 1 = .ok (.iload_n 1, 1) := by decide +kernel
theorem d_M_enough_2 : decode prog_14_method_110_code 2 = .ok (.invokevirtual 345, 3) := by decide +kernel
theorem d_M_enough_5 : decode prog_14_method_110_code 5 = .ok (.ifCond .eq 11, 3) := by decide +kernel
theorem d_M_enough_8 : decode prog_14_method_110_code 8 = .ok (.aload_n 0, 1) := by decide +kernel
theorem d_M_enough_9 : decode prog_14_method_110_code 9 = .ok (.iload_n 2, 1) := by decide +kernel
theorem d_M_enough_10 : decode prog_14_method_110_code 10 = .ok (.invokevirtual 412, 3) := by decide +kernel
theorem d_M_enough_13 : decode prog_14_method_110_code 13 = .ok (.ifCond .ne 5, 3) := by decide +kernel
theorem d_M_enough_16 : decode prog_14_method_110_code 16 = .ok (.iconst (-1), 1) := by decide +kernel
theorem d_M_enough_17 : decode prog_14_method_110_code 17 = .ok (.ireturn, 1) := by decide +kernel
theorem d_M_enough_18 : decode prog_14_method_110_code 18 = .ok (.aload_n 0, 1) := by decide +kernel
theorem d_M_enough_19 : decode prog_14_method_110_code 19 = .ok (.invokevirtual 357, 3) := by decide +kernel
theorem d_M_enough_22 : decode prog_14_method_110_code 22 = .ok (.aload_n 0, 1) := by decide +kernel
theorem d_M_enough_23 : decode prog_14_method_110_code 23 = .ok (.iload_n 1, 1) := by decide +kernel
theorem d_M_enough_24 : decode prog_14_method_110_code 24 = .ok (.invokevirtual 370, 3) := by decide +kernel
theorem d_M_enough_27 : decode prog_14_method_110_code 27 = .ok (.iload_n 2, 1) := by decide +kernel
theorem d_M_enough_28 : decode prog_14_method_110_code 28 = .ok (.ishr, 1) := by decide +kernel
theorem d_M_enough_29 : decode prog_14_method_110_code 29 = .ok (.iconst 1, 1) := by decide +kernel
theorem d_M_enough_30 : decode prog_14_method_110_code 30 = .ok (.iand, 1) := by decide +kernel
theorem d_M_enough_31 : decode prog_14_method_110_code 31 = .ok (.ifCond .ne 6, 3) := by decide +kernel
theorem d_M_enough_34 : decode prog_14_method_110_code 34 = .ok (.bipush (-2), 2) := by decide +kernel
theorem d_M_enough_36 : decode prog_14_method_110_code 36 = .ok (.ireturn, 1) := by decide +kernel
theorem d_M_enough_37 : decode prog_14_method_110_code 37 = .ok (.iconst 0, 1) := by decide +kernel
theorem d_M_enough_38 : decode prog_14_method_110_code 38 = .ok (.istore_n 3, 1) := by decide +kernel
theorem d_M_enough_39 : decode prog_14_method_110_code 39 = .ok (.iload_n 3, 1) := by decide +kernel
theorem d_M_enough_40 : decode prog_14_method_110_code 40 = .ok (.bipush 100, 2) := by decide +kernel
theorem d_M_enough_42 : decode prog_14_method_110_code 42 = .ok (.if_icmp .ge 35, 3) := by decide +kernel
theorem d_M_enough_45 : decode prog_14_method_110_code 45 = .ok (.aload_n 0, 1) := by decide +kernel
theorem d_M_enough_46 : decode prog_14_method_110_code 46 = .ok (.getfield 110, 3) := by decide +kernel
theorem d_M_enough_49 : decode prog_14_method_110_code 49 = .ok (.bipush 25, 2) := by decide +kernel
theorem d_M_enough_51 : decode prog_14_method_110_code 51 = .ok (.bipush 6, 2) := by decide +kernel
theorem d_M_enough_53 : decode prog_14_method_110_code 53 = .ok (.iload_n 1, 1) := by decide +kernel
theorem d_M_enough_54 : decode prog_14_method_110_code 54 = .ok (.imul, 1) := by decide +kernel
theorem d_M_enough_55 : decode prog_14_method_110_code 55 = .ok (.iadd, 1) := by decide +kernel
theorem d_M_enough_56 : decode prog_14_method_110_code 56 = .ok (.iload_n 2, 1) := by decide +kernel
theorem d_M_enough_57 : decode prog_14_method_110_code 57 = .ok (.iadd, 1) := by decide +kernel
theorem d_M_enough_58 : decode prog_14_method_110_code 58 = .ok (.iload_n 3, 1) := by decide +kernel
theorem d_M_enough_59 : decode prog_14_method_110_code 59 = .ok (.iastore, 1) := by decide +kernel
theorem d_M_enough_60 : decode prog_14_method_110_code 60 = .ok (.aload_n 0, 1) := by decide +kernel
theorem d_M_enough_61 : decode prog_14_method_110_code 61 = .ok (.iload_n 1, 1) := by decide +kernel
theorem d_M_enough_62 : decode prog_14_method_110_code 62 = .ok (.invokevirtual 348, 3) := by decide +kernel
theorem d_M_enough_65 : decode prog_14_method_110_code 65 = .ok (.iload_n 2, 1) := by decide +kernel
theorem d_M_enough_66 : decode prog_14_method_110_code 66 = .ok (.if_icmp .ne 5, 3) := by decide +kernel
theorem d_M_enough_69 : decode prog_14_method_110_code 69 = .ok (.iload_n 3, 1) := by decide +kernel
theorem d_M_enough_70 : decode prog_14_method_110_code 70 = .ok (.ireturn, 1) := by decide +kernel
theorem d_M_enough_71 : decode prog_14_method_110_code 71 = .ok (.iinc 3 1, 3) := by decide +kernel
theorem d_M_enough_74 : decode prog_14_method_110_code 74 = .ok (.goto (-35), 3) := by decide +kernel
theorem d_M_enough_77 : decode prog_14_method_110_code 77 = .ok (.bipush (-2), 2) := by decide +kernel
theorem d_M_enough_79 : decode prog_14_method_110_code 79 = .ok (.ireturn, 1) := by decide +kernel
noncomputable def Lc_M_enough_1 : Xp Bool := o2 (fun x y => decide (x < y)) (vI 3) (kI (ii 100))
noncomputable def Lb_M_enough_1 : Sm := sSeq (sAst 0 (gR 12 48 (vR 0)) (o2 (fun x y => x + y) (o2 (fun x y => x + y) (kI (ii 25)) (o2 (fun x y => x * y) (kI (ii 6)) (vI 1))) (vI 2)) (vI 3)) (sIf (o2 (fun x y => decide (x = y)) (cI (mV 12 D_M_choiceOf) [asV Value.ref (vR 0), asV Value.int (vI 1)]) (vI 2)) (sRet (asV Value.int (vI 3))) (sSkip))
noncomputable def Lu_M_enough_1 : Sm := sInc 3 (ii 1)
noncomputable def F_M_enough : Sm := sSeq (sIf (cOr (cNot (o1 (fun x => decide (x ≠ 0)) (cI (mV 12 D_M_isGoer) [asV Value.ref (vR 0), asV Value.int (vI 1)]))) (cNot (o1 (fun x => decide (x ≠ 0)) (cI (mV 12 D_M_isRoad) [asV Value.ref (vR 0), asV Value.int (vI 2)])))) (sRet (asV Value.int (kI (ii (-1))))) (sSkip)) (sSeq (sCall (mV 12 D_M_copies) [asV Value.ref (vR 0)]) (sSeq (sIf (o1 (fun x => decide (x = 0)) (o2 (fun x y => x &&& y) (o2 (fun (x y : Int32) => x >>> (y &&& 31)) (cI (mV 12 D_M_seenBits) [asV Value.ref (vR 0), asV Value.int (vI 1)]) (vI 2)) (kI (ii 1)))) (sRet (asV Value.int (kI (ii (-2))))) (sSkip)) (sSeq (sBlk 3 (sSeq (sDecl (asV Value.int (kI (ii 0)))) (sWh (Lc_M_enough_1) (Lb_M_enough_1) Lu_M_enough_1))) (sRet (asV Value.int (kI (ii (-2))))))))
theorem mf_M_enough : Mf y_M_enough prog_14_method_110_code 4 (some .int) 2 := ⟨tw_1978, tw_134, by decide +kernel⟩
noncomputable def D_M_enough : Dn := runS [1, 1, 1] F_M_enough
theorem ok_M_enough : MOK y_M_enough prog_14_method_110_code 4 (some .int) 4 0 0 D_M_enough := MOK.of (by decide) (by decide) (show SO Y_M_enough [(0, 1), (1, 1), (2, 1)] [(0, 1), (1, 1), (2, 1)] 0 80 (([], 0), ([], 0)) F_M_enough from
  (s_seq (sl1 := [(0, 1), (1, 1), (2, 1)]) (p1 := 18) (s_if (pt := 16) (pf := 18) (c_or (p1 := 8) (c_not (c_if_eqF (p1 := 5) (tg := 16) (e_cI (p1 := 2) (a_cons (ι := Value.ref) (k0 := 1) (p1 := 1) (fun _ => rfl) (e_aload_n (k0 := 0) d_M_enough_0 rfl rfl) (a_cons (ι := Value.int) (k0 := 1) (p1 := 2) (fun _ => rfl) (e_iload_n (k0 := 1) d_M_enough_1 rfl rfl) a_nil)) (k_virt ok_M_isGoer mf_M_isGoer ⟨tw_1715, tw_75⟩ rfl tw_1713 d_M_enough_2 (by decide) (by decide) (by decide))) d_M_enough_5 rfl)) (c_not (c_if_neT (p1 := 13) (tg := 18) (e_cI (p1 := 10) (a_cons (ι := Value.ref) (k0 := 1) (p1 := 9) (fun _ => rfl) (e_aload_n (k0 := 0) d_M_enough_8 rfl rfl) (a_cons (ι := Value.int) (k0 := 1) (p1 := 10) (fun _ => rfl) (e_iload_n (k0 := 2) d_M_enough_9 rfl rfl) a_nil)) (k_virt ok_M_isRoad mf_M_isRoad ⟨tw_1700, tw_72⟩ rfl tw_1698 d_M_enough_10 (by decide) (by decide) (by decide))) d_M_enough_13 rfl))) (s_ret (p1 := 17) (e_iconst d_M_enough_16 (by decide)) rfl d_M_enough_17) s_skip) (s_seq (sl1 := [(0, 1), (1, 1), (2, 1)]) (p1 := 22) (s_call (p1 := 19) (a_cons (ι := Value.ref) (k0 := 1) (p1 := 19) (fun _ => rfl) (e_aload_n (k0 := 0) d_M_enough_18 rfl rfl) a_nil) (k_virt ok_M_copies mf_M_copies ⟨tw_1707, tw_73⟩ rfl tw_1705 d_M_enough_19 (by decide) (by decide) (by decide))) (s_seq (sl1 := [(0, 1), (1, 1), (2, 1)]) (p1 := 37) (s_if (pt := 34) (pf := 37) (c_if_neF (p1 := 31) (tg := 37) (e_iand (p1 := 29) (p2 := 30) (e_ishr (p1 := 27) (p2 := 28) (e_cI (p1 := 24) (a_cons (ι := Value.ref) (k0 := 1) (p1 := 23) (fun _ => rfl) (e_aload_n (k0 := 0) d_M_enough_22 rfl rfl) (a_cons (ι := Value.int) (k0 := 1) (p1 := 24) (fun _ => rfl) (e_iload_n (k0 := 1) d_M_enough_23 rfl rfl) a_nil)) (k_virt ok_M_seenBits mf_M_seenBits ⟨tw_1743, tw_82⟩ rfl tw_1741 d_M_enough_24 (by decide) (by decide) (by decide))) (e_iload_n (k0 := 2) d_M_enough_27 rfl rfl) d_M_enough_28) (e_iconst d_M_enough_29 (by decide)) d_M_enough_30) d_M_enough_31 rfl) (s_ret (p1 := 36) (e_bipush d_M_enough_34 (by decide)) rfl d_M_enough_36) s_skip) (s_seq (sl1 := [(0, 1), (1, 1), (2, 1)]) (p1 := 77) (s_blk (sl1 := [(0, 1), (1, 1), (2, 1), (3, 1)]) (s_seq (sl1 := [(0, 1), (1, 1), (2, 1), (3, 1)]) (p1 := 39) (s_decl (p1 := 38) (e_iconst d_M_enough_37 (by decide)) (t_istore_n d_M_enough_38 rfl (by decide)) rfl) (s_for (pt := 45) (pu := 71) (pf := 77) (pg := 0) (c_icmp_geF (p1 := 40) (p2 := 42) (tg := 77) (e_iload_n (k0 := 3) d_M_enough_39 rfl rfl) (e_bipush d_M_enough_40 (by decide)) d_M_enough_42 rfl) (s_seq (sl1 := [(0, 1), (1, 1), (2, 1), (3, 1)]) (p1 := 60) (s_ast (p1 := 49) (p2 := 58) (p3 := 59) (e_gR (k0 := 48) (p1 := 46) cf_12 (e_aload_n (k0 := 0) d_M_enough_45 rfl rfl) (by decide) tw_1408 d_M_enough_46) (e_iadd (p1 := 56) (p2 := 57) (e_iadd (p1 := 51) (p2 := 55) (e_bipush d_M_enough_49 (by decide)) (e_imul (p1 := 53) (p2 := 54) (e_bipush d_M_enough_51 (by decide)) (e_iload_n (k0 := 1) d_M_enough_53 rfl rfl) d_M_enough_54) d_M_enough_55) (e_iload_n (k0 := 2) d_M_enough_56 rfl rfl) d_M_enough_57) (e_iload_n (k0 := 3) d_M_enough_58 rfl rfl) (as_i d_M_enough_59)) (s_if (pt := 69) (pf := 71) (c_icmp_neF (p1 := 65) (p2 := 66) (tg := 71) (e_cI (p1 := 62) (a_cons (ι := Value.ref) (k0 := 1) (p1 := 61) (fun _ => rfl) (e_aload_n (k0 := 0) d_M_enough_60 rfl rfl) (a_cons (ι := Value.int) (k0 := 1) (p1 := 62) (fun _ => rfl) (e_iload_n (k0 := 1) d_M_enough_61 rfl rfl) a_nil)) (k_virt ok_M_choiceOf mf_M_choiceOf ⟨tw_1719, tw_76⟩ rfl tw_1717 d_M_enough_62 (by decide) (by decide) (by decide))) (e_iload_n (k0 := 2) d_M_enough_65 rfl rfl) d_M_enough_66 rfl) (s_ret (p1 := 70) (e_iload_n (k0 := 3) d_M_enough_69 rfl rfl) rfl d_M_enough_70) s_skip)) (s_goto (p1 := 74) (s_inc (k0 := 3) d_M_enough_71 rfl rfl (Nat.le_of_ble_eq_true rfl) rfl) d_M_enough_74 rfl))) rfl) (s_ret (p1 := 79) (e_bipush d_M_enough_77 (by decide)) rfl d_M_enough_79))))))
/-! BlinkerCrossModel.open(I)I -/
abbrev y_M_open : MethodName := ⟨"BlinkerCrossModel", "open", "(I)I"⟩
abbrev Y_M_open : Yt := (prog_14_method_111_code, 3, "BlinkerCrossModel", 4, (some .int), "open")
theorem d_M_open_0 : decode prog_14_method_111_code 0 = .ok (.aload_n 0, 1) := by decide +kernel
theorem d_M_open_1 : decode prog_14_method_111_code 1 = .ok (.iload_n 1, 1) := by decide +kernel
theorem d_M_open_2 : decode prog_14_method_111_code 2 = .ok (.invokevirtual 345, 3) := by decide +kernel
theorem d_M_open_5 : decode prog_14_method_111_code 5 = .ok (.ifCond .ne 5, 3) := by decide +kernel
theorem d_M_open_8 : decode prog_14_method_111_code 8 = .ok (.iconst (-1), 1) := by decide +kernel
theorem d_M_open_9 : decode prog_14_method_111_code 9 = .ok (.ireturn, 1) := by decide +kernel
theorem d_M_open_10 : decode prog_14_method_111_code 10 = .ok (.aload_n 0, 1) := by decide +kernel
theorem d_M_open_11 : decode prog_14_method_111_code 11 = .ok (.invokevirtual 357, 3) := by decide +kernel
theorem d_M_open_14 : decode prog_14_method_111_code 14 = .ok (.iconst 1, 1) := by decide +kernel
theorem d_M_open_15 : decode prog_14_method_111_code 15 = .ok (.istore_n 2, 1) := by decide +kernel
theorem d_M_open_16 : decode prog_14_method_111_code 16 = .ok (.iload_n 2, 1) := by decide +kernel
theorem d_M_open_17 : decode prog_14_method_111_code 17 = .ok (.bipush 6, 2) := by decide +kernel
theorem d_M_open_19 : decode prog_14_method_111_code 19 = .ok (.if_icmp .ge 32, 3) := by decide +kernel
theorem d_M_open_22 : decode prog_14_method_111_code 22 = .ok (.aload_n 0, 1) := by decide +kernel
theorem d_M_open_23 : decode prog_14_method_111_code 23 = .ok (.getfield 110, 3) := by decide +kernel
theorem d_M_open_26 : decode prog_14_method_111_code 26 = .ok (.iconst 5, 1) := by decide +kernel
theorem d_M_open_27 : decode prog_14_method_111_code 27 = .ok (.iload_n 1, 1) := by decide +kernel
theorem d_M_open_28 : decode prog_14_method_111_code 28 = .ok (.iadd, 1) := by decide +kernel
theorem d_M_open_29 : decode prog_14_method_111_code 29 = .ok (.iload_n 2, 1) := by decide +kernel
theorem d_M_open_30 : decode prog_14_method_111_code 30 = .ok (.iastore, 1) := by decide +kernel
theorem d_M_open_31 : decode prog_14_method_111_code 31 = .ok (.aload_n 0, 1) := by decide +kernel
theorem d_M_open_32 : decode prog_14_method_111_code 32 = .ok (.invokevirtual 354, 3) := by decide +kernel
theorem d_M_open_35 : decode prog_14_method_111_code 35 = .ok (.aload_n 0, 1) := by decide +kernel
theorem d_M_open_36 : decode prog_14_method_111_code 36 = .ok (.iload_n 1, 1) := by decide +kernel
theorem d_M_open_37 : decode prog_14_method_111_code 37 = .ok (.invokevirtual 394, 3) := by decide +kernel
theorem d_M_open_40 : decode prog_14_method_111_code 40 = .ok (.ifCond .ne 5, 3) := by decide +kernel
theorem d_M_open_43 : decode prog_14_method_111_code 43 = .ok (.iload_n 2, 1) := by decide +kernel
theorem d_M_open_44 : decode prog_14_method_111_code 44 = .ok (.ireturn, 1) := by decide +kernel
theorem d_M_open_45 : decode prog_14_method_111_code 45 = .ok (.iinc 2 1, 3) := by decide +kernel
theorem d_M_open_48 : decode prog_14_method_111_code 48 = .ok (.goto (-32), 3) := by decide +kernel
theorem d_M_open_51 : decode prog_14_method_111_code 51 = .ok (.bipush 6, 2) := by decide +kernel
theorem d_M_open_53 : decode prog_14_method_111_code 53 = .ok (.ireturn, 1) := by decide +kernel
noncomputable def Lc_M_open_1 : Xp Bool := o2 (fun x y => decide (x < y)) (vI 2) (kI (ii 6))
noncomputable def Lb_M_open_1 : Sm := sSeq (sAst 0 (gR 12 48 (vR 0)) (o2 (fun x y => x + y) (kI (ii 5)) (vI 1)) (vI 2)) (sSeq (sCall (mV 12 D_M_fillsChoices) [asV Value.ref (vR 0)]) (sIf (o1 (fun x => decide (x = 0)) (cI (mV 12 D_M_missedOf) [asV Value.ref (vR 0), asV Value.int (vI 1)])) (sRet (asV Value.int (vI 2))) (sSkip)))
noncomputable def Lu_M_open_1 : Sm := sInc 2 (ii 1)
noncomputable def F_M_open : Sm := sSeq (sIf (cNot (o1 (fun x => decide (x ≠ 0)) (cI (mV 12 D_M_isGoer) [asV Value.ref (vR 0), asV Value.int (vI 1)]))) (sRet (asV Value.int (kI (ii (-1))))) (sSkip)) (sSeq (sCall (mV 12 D_M_copies) [asV Value.ref (vR 0)]) (sSeq (sBlk 2 (sSeq (sDecl (asV Value.int (kI (ii 1)))) (sWh (Lc_M_open_1) (Lb_M_open_1) Lu_M_open_1))) (sRet (asV Value.int (kI (ii 6))))))
theorem mf_M_open : Mf y_M_open prog_14_method_111_code 3 (some .int) 1 := ⟨tw_1982, tw_134, by decide +kernel⟩
noncomputable def D_M_open : Dn := runS [1, 1] F_M_open
theorem ok_M_open : MOK y_M_open prog_14_method_111_code 3 (some .int) 4 0 0 D_M_open := MOK.of (by decide) (by decide) (show SO Y_M_open [(0, 1), (1, 1)] [(0, 1), (1, 1)] 0 54 (([], 0), ([], 0)) F_M_open from
  (s_seq (sl1 := [(0, 1), (1, 1)]) (p1 := 10) (s_if (pt := 8) (pf := 10) (c_not (c_if_neT (p1 := 5) (tg := 10) (e_cI (p1 := 2) (a_cons (ι := Value.ref) (k0 := 1) (p1 := 1) (fun _ => rfl) (e_aload_n (k0 := 0) d_M_open_0 rfl rfl) (a_cons (ι := Value.int) (k0 := 1) (p1 := 2) (fun _ => rfl) (e_iload_n (k0 := 1) d_M_open_1 rfl rfl) a_nil)) (k_virt ok_M_isGoer mf_M_isGoer ⟨tw_1715, tw_75⟩ rfl tw_1713 d_M_open_2 (by decide) (by decide) (by decide))) d_M_open_5 rfl)) (s_ret (p1 := 9) (e_iconst d_M_open_8 (by decide)) rfl d_M_open_9) s_skip) (s_seq (sl1 := [(0, 1), (1, 1)]) (p1 := 14) (s_call (p1 := 11) (a_cons (ι := Value.ref) (k0 := 1) (p1 := 11) (fun _ => rfl) (e_aload_n (k0 := 0) d_M_open_10 rfl rfl) a_nil) (k_virt ok_M_copies mf_M_copies ⟨tw_1707, tw_73⟩ rfl tw_1705 d_M_open_11 (by decide) (by decide) (by decide))) (s_seq (sl1 := [(0, 1), (1, 1)]) (p1 := 51) (s_blk (sl1 := [(0, 1), (1, 1), (2, 1)]) (s_seq (sl1 := [(0, 1), (1, 1), (2, 1)]) (p1 := 16) (s_decl (p1 := 15) (e_iconst d_M_open_14 (by decide)) (t_istore_n d_M_open_15 rfl (by decide)) rfl) (s_for (pt := 22) (pu := 45) (pf := 51) (pg := 0) (c_icmp_geF (p1 := 17) (p2 := 19) (tg := 51) (e_iload_n (k0 := 2) d_M_open_16 rfl rfl) (e_bipush d_M_open_17 (by decide)) d_M_open_19 rfl) (s_seq (sl1 := [(0, 1), (1, 1), (2, 1)]) (p1 := 31) (s_ast (p1 := 26) (p2 := 29) (p3 := 30) (e_gR (k0 := 48) (p1 := 23) cf_12 (e_aload_n (k0 := 0) d_M_open_22 rfl rfl) (by decide) tw_1408 d_M_open_23) (e_iadd (p1 := 27) (p2 := 28) (e_iconst d_M_open_26 (by decide)) (e_iload_n (k0 := 1) d_M_open_27 rfl rfl) d_M_open_28) (e_iload_n (k0 := 2) d_M_open_29 rfl rfl) (as_i d_M_open_30)) (s_seq (sl1 := [(0, 1), (1, 1), (2, 1)]) (p1 := 35) (s_call (p1 := 32) (a_cons (ι := Value.ref) (k0 := 1) (p1 := 32) (fun _ => rfl) (e_aload_n (k0 := 0) d_M_open_31 rfl rfl) a_nil) (k_virt ok_M_fillsChoices mf_M_fillsChoices ⟨tw_1711, tw_74⟩ rfl tw_1709 d_M_open_32 (by decide) (by decide) (by decide))) (s_if (pt := 43) (pf := 45) (c_if_neF (p1 := 40) (tg := 45) (e_cI (p1 := 37) (a_cons (ι := Value.ref) (k0 := 1) (p1 := 36) (fun _ => rfl) (e_aload_n (k0 := 0) d_M_open_35 rfl rfl) (a_cons (ι := Value.int) (k0 := 1) (p1 := 37) (fun _ => rfl) (e_iload_n (k0 := 1) d_M_open_36 rfl rfl) a_nil)) (k_virt ok_M_missedOf mf_M_missedOf ⟨tw_1782, tw_90⟩ rfl tw_1780 d_M_open_37 (by decide) (by decide) (by decide))) d_M_open_40 rfl) (s_ret (p1 := 44) (e_iload_n (k0 := 2) d_M_open_43 rfl rfl) rfl d_M_open_44) s_skip))) (s_goto (p1 := 48) (s_inc (k0 := 2) d_M_open_45 rfl rfl (Nat.le_of_ble_eq_true rfl) rfl) d_M_open_48 rfl))) rfl) (s_ret (p1 := 53) (e_bipush d_M_open_51 (by decide)) rfl d_M_open_53)))))
/-! BlinkerCrossModel.crowded(I)I -/
abbrev y_M_crowded : MethodName := ⟨"BlinkerCrossModel", "crowded", "(I)I"⟩
abbrev Y_M_crowded : Yt := (prog_14_method_112_code, 4, "BlinkerCrossModel", 4, (some .int), "crowded")
theorem d_M_crowded_0 : decode prog_14_method_112_code 0 = .ok (.iload_n 1, 1) := by decide +kernel
theorem d_M_crowded_1 : decode prog_14_method_112_code 1 = .ok (.iconst 0, 1) := by decide +kernel
theorem d_M_crowded_2 : decode prog_14_method_112_code 2 = .ok (.iconst 1, 1) := by decide +kernel
theorem d_M_crowded_3 : decode prog_14_method_112_code 3 = .ok (.invokestatic 319, 3) := by decide +kernel
theorem d_M_crowded_6 : decode prog_14_method_112_code 6 = .ok (.ifCond .ne 5, 3) := by decide +kernel
theorem d_M_crowded_9 : decode prog_14_method_112_code 9 = .ok (.iconst (-1), 1) := by decide +kernel
theorem d_M_crowded_10 : decode prog_14_method_112_code 10 = .ok (.ireturn, 1) := by decide +kernel
theorem d_M_crowded_11 : decode prog_14_method_112_code 11 = .ok (.aload_n 0, 1) := by decide +kernel
theorem d_M_crowded_12 : decode prog_14_method_112_code 12 = .ok (.invokevirtual 357, 3) := by decide +kernel
theorem d_M_crowded_15 : decode prog_14_method_112_code 15 = .ok (.bipush (-2), 2) := by decide +kernel
theorem d_M_crowded_17 : decode prog_14_method_112_code 17 = .ok (.istore_n 2, 1) := by decide +kernel
theorem d_M_crowded_18 : decode prog_14_method_112_code 18 = .ok (.iconst 0, 1) := by decide +kernel
theorem d_M_crowded_19 : decode prog_14_method_112_code 19 = .ok (.istore_n 3, 1) := by decide +kernel
theorem d_M_crowded_20 : decode prog_14_method_112_code 20 = .ok (.iload_n 3, 1) := by decide +kernel
theorem d_M_crowded_21 : decode prog_14_method_112_code 21 = .ok (.aload_n 0, 1) := by decide +kernel
theorem d_M_crowded_22 : decode prog_14_method_112_code 22 = .ok (.getfield 46, 3) := by decide +kernel
theorem d_M_crowded_25 : decode prog_14_method_112_code 25 = .ok (.aload_n 0, 1) := by decide +kernel
theorem d_M_crowded_26 : decode prog_14_method_112_code 26 = .ok (.getfield 242, 3) := by decide +kernel
theorem d_M_crowded_29 : decode prog_14_method_112_code 29 = .ok (.iaload, 1) := by decide +kernel
theorem d_M_crowded_30 : decode prog_14_method_112_code 30 = .ok (.if_icmp .ge 28, 3) := by decide +kernel
theorem d_M_crowded_33 : decode prog_14_method_112_code 33 = .ok (.iload_n 2, 1) := by decide +kernel
theorem d_M_crowded_34 : decode prog_14_method_112_code 34 = .ok (.ifCond .lt 16, 3) := by decide +kernel
theorem d_M_crowded_37 : decode prog_14_method_112_code 37 = .ok (.aload_n 0, 1) := by decide +kernel
theorem d_M_crowded_38 : decode prog_14_method_112_code 38 = .ok (.iload_n 3, 1) := by decide +kernel
theorem d_M_crowded_39 : decode prog_14_method_112_code 39 = .ok (.invokevirtual 363, 3) := by decide +kernel
theorem d_M_crowded_42 : decode prog_14_method_112_code 42 = .ok (.aload_n 0, 1) := by decide +kernel
theorem d_M_crowded_43 : decode prog_14_method_112_code 43 = .ok (.iload_n 2, 1) := by decide +kernel
theorem d_M_crowded_44 : decode prog_14_method_112_code 44 = .ok (.invokevirtual 363, 3) := by decide +kernel
theorem d_M_crowded_47 : decode prog_14_method_112_code 47 = .ok (.if_icmp .le 5, 3) := by decide +kernel
theorem d_M_crowded_50 : decode prog_14_method_112_code 50 = .ok (.iload_n 3, 1) := by decide +kernel
theorem d_M_crowded_51 : decode prog_14_method_112_code 51 = .ok (.istore_n 2, 1) := by decide +kernel
theorem d_M_crowded_52 : decode prog_14_method_112_code 52 = .ok (.iinc 3 1, 3) := by decide +kernel
theorem d_M_crowded_55 : decode prog_14_method_112_code 55 = .ok (.goto (-35), 3) := by decide +kernel
theorem d_M_crowded_58 : decode prog_14_method_112_code 58 = .ok (.iload_n 2, 1) := by decide +kernel
theorem d_M_crowded_59 : decode prog_14_method_112_code 59 = .ok (.ifCond .lt 7, 3) := by decide +kernel
theorem d_M_crowded_62 : decode prog_14_method_112_code 62 = .ok (.iload_n 1, 1) := by decide +kernel
theorem d_M_crowded_63 : decode prog_14_method_112_code 63 = .ok (.ifCond .ne 7, 3) := by decide +kernel
theorem d_M_crowded_66 : decode prog_14_method_112_code 66 = .ok (.iload_n 2, 1) := by decide +kernel
theorem d_M_crowded_67 : decode prog_14_method_112_code 67 = .ok (.goto 8, 3) := by decide +kernel
theorem d_M_crowded_70 : decode prog_14_method_112_code 70 = .ok (.aload_n 0, 1) := by decide +kernel
theorem d_M_crowded_71 : decode prog_14_method_112_code 71 = .ok (.iload_n 2, 1) := by decide +kernel
theorem d_M_crowded_72 : decode prog_14_method_112_code 72 = .ok (.invokevirtual 363, 3) := by decide +kernel
theorem d_M_crowded_75 : decode prog_14_method_112_code 75 = .ok (.ireturn, 1) := by decide +kernel
noncomputable def Lc_M_crowded_1 : Xp Bool := o2 (fun x y => decide (x < y)) (vI 3) (aI 0 (gR 12 23 (vR 0)) (gI 12 18 (vR 0)))
noncomputable def Lb_M_crowded_1 : Sm := sIf (cOr (o1 (fun x => decide (x < 0)) (vI 2)) (o2 (fun x y => decide (x > y)) (cI (mV 12 D_M_choosing) [asV Value.ref (vR 0), asV Value.int (vI 3)]) (cI (mV 12 D_M_choosing) [asV Value.ref (vR 0), asV Value.int (vI 2)]))) (sSet 2 (asV Value.int (vI 3))) (sSkip)
noncomputable def Lu_M_crowded_1 : Sm := sInc 3 (ii 1)
noncomputable def F_M_crowded : Sm := sSeq (sIf (cNot (o1 (fun x => decide (x ≠ 0)) (cI (D_M_in) [asV Value.int (vI 1), asV Value.int (kI (ii 0)), asV Value.int (kI (ii 1))]))) (sRet (asV Value.int (kI (ii (-1))))) (sSkip)) (sSeq (sCall (mV 12 D_M_copies) [asV Value.ref (vR 0)]) (sSeq (sDecl (asV Value.int (kI (ii (-2))))) (sSeq (sBlk 3 (sSeq (sDecl (asV Value.int (kI (ii 0)))) (sWh (Lc_M_crowded_1) (Lb_M_crowded_1) Lu_M_crowded_1))) (sRet (asV Value.int (iX (cOr (o1 (fun x => decide (x < 0)) (vI 2)) (o1 (fun x => decide (x = 0)) (vI 1))) (vI 2) (cI (mV 12 D_M_choosing) [asV Value.ref (vR 0), asV Value.int (vI 2)])))))))
theorem mf_M_crowded : Mf y_M_crowded prog_14_method_112_code 4 (some .int) 1 := ⟨tw_1986, tw_134, by decide +kernel⟩
noncomputable def D_M_crowded : Dn := runS [1, 1] F_M_crowded
theorem ok_M_crowded : MOK y_M_crowded prog_14_method_112_code 4 (some .int) 4 0 0 D_M_crowded := MOK.of (by decide) (by decide) (show SO Y_M_crowded [(0, 1), (1, 1)] [(0, 1), (1, 1), (2, 1)] 0 76 (([], 0), ([], 0)) F_M_crowded from
  (s_seq (sl1 := [(0, 1), (1, 1)]) (p1 := 11) (s_if (pt := 9) (pf := 11) (c_not (c_if_neT (p1 := 6) (tg := 11) (e_cI (p1 := 3) (a_cons (ι := Value.int) (k0 := 1) (p1 := 1) (fun _ => rfl) (e_iload_n (k0 := 1) d_M_crowded_0 rfl rfl) (a_cons (ι := Value.int) (k0 := 1) (p1 := 2) (fun _ => rfl) (e_iconst d_M_crowded_1 (by decide)) (a_cons (ι := Value.int) (k0 := 1) (p1 := 3) (fun _ => rfl) (e_iconst d_M_crowded_2 (by decide)) a_nil))) (k_stat ok_M_in mf_M_in tw_1703 tw_1702 d_M_crowded_3 (by decide) (by decide) (by decide))) d_M_crowded_6 rfl)) (s_ret (p1 := 10) (e_iconst d_M_crowded_9 (by decide)) rfl d_M_crowded_10) s_skip) (s_seq (sl1 := [(0, 1), (1, 1)]) (p1 := 15) (s_call (p1 := 12) (a_cons (ι := Value.ref) (k0 := 1) (p1 := 12) (fun _ => rfl) (e_aload_n (k0 := 0) d_M_crowded_11 rfl rfl) a_nil) (k_virt ok_M_copies mf_M_copies ⟨tw_1707, tw_73⟩ rfl tw_1705 d_M_crowded_12 (by decide) (by decide) (by decide))) (s_seq (sl1 := [(0, 1), (1, 1), (2, 1)]) (p1 := 18) (s_decl (p1 := 17) (e_bipush d_M_crowded_15 (by decide)) (t_istore_n d_M_crowded_17 rfl (by decide)) rfl) (s_seq (sl1 := [(0, 1), (1, 1), (2, 1)]) (p1 := 58) (s_blk (sl1 := [(0, 1), (1, 1), (2, 1), (3, 1)]) (s_seq (sl1 := [(0, 1), (1, 1), (2, 1), (3, 1)]) (p1 := 20) (s_decl (p1 := 19) (e_iconst d_M_crowded_18 (by decide)) (t_istore_n d_M_crowded_19 rfl (by decide)) rfl) (s_for (pt := 33) (pu := 52) (pf := 58) (pg := 0) (c_icmp_geF (p1 := 21) (p2 := 30) (tg := 58) (e_iload_n (k0 := 3) d_M_crowded_20 rfl rfl) (e_iald (p1 := 25) (p2 := 29) (e_gR (k0 := 23) (p1 := 22) cf_12 (e_aload_n (k0 := 0) d_M_crowded_21 rfl rfl) (by decide) tw_1383 d_M_crowded_22) (e_gI (k0 := 18) (p1 := 26) cf_12 (e_aload_n (k0 := 0) d_M_crowded_25 rfl rfl) (by decide) tw_1378 d_M_crowded_26) d_M_crowded_29) d_M_crowded_30 rfl) (s_if (pt := 50) (pf := 52) (c_or (p1 := 37) (c_if_ltT (p1 := 34) (tg := 50) (e_iload_n (k0 := 2) d_M_crowded_33 rfl rfl) d_M_crowded_34 rfl) (c_icmp_leF (p1 := 42) (p2 := 47) (tg := 52) (e_cI (p1 := 39) (a_cons (ι := Value.ref) (k0 := 1) (p1 := 38) (fun _ => rfl) (e_aload_n (k0 := 0) d_M_crowded_37 rfl rfl) (a_cons (ι := Value.int) (k0 := 1) (p1 := 39) (fun _ => rfl) (e_iload_n (k0 := 3) d_M_crowded_38 rfl rfl) a_nil)) (k_virt ok_M_choosing mf_M_choosing ⟨tw_1735, tw_80⟩ rfl tw_1733 d_M_crowded_39 (by decide) (by decide) (by decide))) (e_cI (p1 := 44) (a_cons (ι := Value.ref) (k0 := 1) (p1 := 43) (fun _ => rfl) (e_aload_n (k0 := 0) d_M_crowded_42 rfl rfl) (a_cons (ι := Value.int) (k0 := 1) (p1 := 44) (fun _ => rfl) (e_iload_n (k0 := 2) d_M_crowded_43 rfl rfl) a_nil)) (k_virt ok_M_choosing mf_M_choosing ⟨tw_1735, tw_80⟩ rfl tw_1733 d_M_crowded_44 (by decide) (by decide) (by decide))) d_M_crowded_47 rfl)) (s_set (k0 := 2) (p1 := 51) (e_iload_n (k0 := 3) d_M_crowded_50 rfl rfl) (t_istore_n d_M_crowded_51 rfl (by decide)) rfl rfl) s_skip) (s_goto (p1 := 55) (s_inc (k0 := 3) d_M_crowded_52 rfl rfl (Nat.le_of_ble_eq_true rfl) rfl) d_M_crowded_55 rfl))) rfl) (s_ret (p1 := 75) (e_ite (pt := 66) (p1 := 67) (pf := 70) (c_or (p1 := 62) (c_if_ltT (p1 := 59) (tg := 66) (e_iload_n (k0 := 2) d_M_crowded_58 rfl rfl) d_M_crowded_59 rfl) (c_if_neF (p1 := 63) (tg := 70) (e_iload_n (k0 := 1) d_M_crowded_62 rfl rfl) d_M_crowded_63 rfl)) (e_iload_n (k0 := 2) d_M_crowded_66 rfl rfl) d_M_crowded_67 rfl (e_cI (p1 := 72) (a_cons (ι := Value.ref) (k0 := 1) (p1 := 71) (fun _ => rfl) (e_aload_n (k0 := 0) d_M_crowded_70 rfl rfl) (a_cons (ι := Value.int) (k0 := 1) (p1 := 72) (fun _ => rfl) (e_iload_n (k0 := 2) d_M_crowded_71 rfl rfl) a_nil)) (k_virt ok_M_choosing mf_M_choosing ⟨tw_1735, tw_80⟩ rfl tw_1733 d_M_crowded_72 (by decide) (by decide) (by decide)))) rfl d_M_crowded_75))))))
/-! BlinkerCrossModel.same(I)I -/
abbrev y_M_same : MethodName := ⟨"BlinkerCrossModel", "same", "(I)I"⟩
abbrev Y_M_same : Yt := (prog_14_method_113_code, 4, "BlinkerCrossModel", 4, (some .int), "same")
theorem d_M_same_0 : decode prog_14_method_113_code 0 = .ok (.aload_n 0, 1) := by decide +kernel
theorem d_M_same_1 : decode prog_14_method_113_code 1 = .ok (.iload_n 1, 1) := by decide +kernel
theorem d_M_same_2 : decode prog_14_method_113_code 2 = .ok (.invokevirtual 345, 3) := by decide +kernel
theorem d_M_same_5 : decode prog_14_method_113_code 5 = .ok (.ifCond .ne 5, 3) := by decide +kernel
theorem d_M_same_8 : decode prog_14_method_113_code 8 = .ok (.iconst (-1), 1) := by decide +kernel
theorem d_M_same_9 : decode prog_14_method_113_code 9 = .ok (.ireturn, 1) := by decide +kernel
theorem d_M_same_10 : decode prog_14_method_113_code 10 = .ok (.aload_n 0, 1) := by decide +kernel
theorem d_M_same_11 : decode prog_14_method_113_code 11 = .ok (.invokevirtual 357, 3) := by decide +kernel
theorem d_M_same_14 : decode prog_14_method_113_code 14 = .ok (.iconst 0, 1) := by decide +kernel
theorem d_M_same_15 : decode prog_14_method_113_code 15 = .ok (.istore_n 2, 1) := by decide +kernel
theorem d_M_same_16 : decode prog_14_method_113_code 16 = .ok (.iconst 0, 1) := by decide +kernel
theorem d_M_same_17 : decode prog_14_method_113_code 17 = .ok (.istore_n 3, 1) := by decide +kernel
theorem d_M_same_18 : decode prog_14_method_113_code 18 = .ok (.iload_n 3, 1) := by decide +kernel
theorem d_M_same_19 : decode prog_14_method_113_code 19 = .ok (.aload_n 0, 1) := by decide +kernel
theorem d_M_same_20 : decode prog_14_method_113_code 20 = .ok (.getfield 52, 3) := by decide +kernel
theorem d_M_same_23 : decode prog_14_method_113_code 23 = .ok (.aload_n 0, 1) := by decide +kernel
theorem d_M_same_24 : decode prog_14_method_113_code 24 = .ok (.getfield 242, 3) := by decide +kernel
theorem d_M_same_27 : decode prog_14_method_113_code 27 = .ok (.iaload, 1) := by decide +kernel
theorem d_M_same_28 : decode prog_14_method_113_code 28 = .ok (.if_icmp .ge 35, 3) := by decide +kernel
theorem d_M_same_31 : decode prog_14_method_113_code 31 = .ok (.iload_n 3, 1) := by decide +kernel
theorem d_M_same_32 : decode prog_14_method_113_code 32 = .ok (.iload_n 1, 1) := by decide +kernel
theorem d_M_same_33 : decode prog_14_method_113_code 33 = .ok (.if_icmp .eq 24, 3) := by decide +kernel
theorem d_M_same_36 : decode prog_14_method_113_code 36 = .ok (.aload_n 0, 1) := by decide +kernel
theorem d_M_same_37 : decode prog_14_method_113_code 37 = .ok (.getfield 113, 3) := by decide +kernel
theorem d_M_same_40 : decode prog_14_method_113_code 40 = .ok (.iload_n 3, 1) := by decide +kernel
theorem d_M_same_41 : decode prog_14_method_113_code 41 = .ok (.iaload, 1) := by decide +kernel
theorem d_M_same_42 : decode prog_14_method_113_code 42 = .ok (.aload_n 0, 1) := by decide +kernel
theorem d_M_same_43 : decode prog_14_method_113_code 43 = .ok (.getfield 113, 3) := by decide +kernel
theorem d_M_same_46 : decode prog_14_method_113_code 46 = .ok (.iload_n 1, 1) := by decide +kernel
theorem d_M_same_47 : decode prog_14_method_113_code 47 = .ok (.iaload, 1) := by decide +kernel
theorem d_M_same_48 : decode prog_14_method_113_code 48 = .ok (.if_icmp .ne 9, 3) := by decide +kernel
theorem d_M_same_51 : decode prog_14_method_113_code 51 = .ok (.iload_n 2, 1) := by decide +kernel
theorem d_M_same_52 : decode prog_14_method_113_code 52 = .ok (.iconst 1, 1) := by decide +kernel
theorem d_M_same_53 : decode prog_14_method_113_code 53 = .ok (.iload_n 3, 1) := by decide +kernel
theorem d_M_same_54 : decode prog_14_method_113_code 54 = .ok (.ishl, 1) := by decide +kernel
theorem d_M_same_55 : decode prog_14_method_113_code 55 = .ok (.ior, 1) := by decide +kernel
theorem d_M_same_56 : decode prog_14_method_113_code 56 = .ok (.istore_n 2, 1) := by decide +kernel
theorem d_M_same_57 : decode prog_14_method_113_code 57 = .ok (.iinc 3 1, 3) := by decide +kernel
theorem d_M_same_60 : decode prog_14_method_113_code 60 = .ok (.goto (-42), 3) := by decide +kernel
theorem d_M_same_63 : decode prog_14_method_113_code 63 = .ok (.iload_n 2, 1) := by decide +kernel
theorem d_M_same_64 : decode prog_14_method_113_code 64 = .ok (.ireturn, 1) := by decide +kernel
noncomputable def Lc_M_same_1 : Xp Bool := o2 (fun x y => decide (x < y)) (vI 3) (aI 0 (gR 12 25 (vR 0)) (gI 12 18 (vR 0)))
noncomputable def Lb_M_same_1 : Sm := sIf (cAnd (o2 (fun x y => decide (x ≠ y)) (vI 3) (vI 1)) (o2 (fun x y => decide (x = y)) (aI 0 (gR 12 52 (vR 0)) (vI 3)) (aI 0 (gR 12 52 (vR 0)) (vI 1)))) (sSet 2 (asV Value.int (o2 (fun x y => x ||| y) (vI 2) (o2 (fun (x y : Int32) => x <<< (y &&& 31)) (kI (ii 1)) (vI 3))))) (sSkip)
noncomputable def Lu_M_same_1 : Sm := sInc 3 (ii 1)
noncomputable def F_M_same : Sm := sSeq (sIf (cNot (o1 (fun x => decide (x ≠ 0)) (cI (mV 12 D_M_isGoer) [asV Value.ref (vR 0), asV Value.int (vI 1)]))) (sRet (asV Value.int (kI (ii (-1))))) (sSkip)) (sSeq (sCall (mV 12 D_M_copies) [asV Value.ref (vR 0)]) (sSeq (sDecl (asV Value.int (kI (ii 0)))) (sSeq (sBlk 3 (sSeq (sDecl (asV Value.int (kI (ii 0)))) (sWh (Lc_M_same_1) (Lb_M_same_1) Lu_M_same_1))) (sRet (asV Value.int (vI 2))))))
theorem mf_M_same : Mf y_M_same prog_14_method_113_code 4 (some .int) 1 := ⟨tw_1990, tw_134, by decide +kernel⟩
noncomputable def D_M_same : Dn := runS [1, 1] F_M_same
theorem ok_M_same : MOK y_M_same prog_14_method_113_code 4 (some .int) 4 0 0 D_M_same := MOK.of (by decide) (by decide) (show SO Y_M_same [(0, 1), (1, 1)] [(0, 1), (1, 1), (2, 1)] 0 65 (([], 0), ([], 0)) F_M_same from
  (s_seq (sl1 := [(0, 1), (1, 1)]) (p1 := 10) (s_if (pt := 8) (pf := 10) (c_not (c_if_neT (p1 := 5) (tg := 10) (e_cI (p1 := 2) (a_cons (ι := Value.ref) (k0 := 1) (p1 := 1) (fun _ => rfl) (e_aload_n (k0 := 0) d_M_same_0 rfl rfl) (a_cons (ι := Value.int) (k0 := 1) (p1 := 2) (fun _ => rfl) (e_iload_n (k0 := 1) d_M_same_1 rfl rfl) a_nil)) (k_virt ok_M_isGoer mf_M_isGoer ⟨tw_1715, tw_75⟩ rfl tw_1713 d_M_same_2 (by decide) (by decide) (by decide))) d_M_same_5 rfl)) (s_ret (p1 := 9) (e_iconst d_M_same_8 (by decide)) rfl d_M_same_9) s_skip) (s_seq (sl1 := [(0, 1), (1, 1)]) (p1 := 14) (s_call (p1 := 11) (a_cons (ι := Value.ref) (k0 := 1) (p1 := 11) (fun _ => rfl) (e_aload_n (k0 := 0) d_M_same_10 rfl rfl) a_nil) (k_virt ok_M_copies mf_M_copies ⟨tw_1707, tw_73⟩ rfl tw_1705 d_M_same_11 (by decide) (by decide) (by decide))) (s_seq (sl1 := [(0, 1), (1, 1), (2, 1)]) (p1 := 16) (s_decl (p1 := 15) (e_iconst d_M_same_14 (by decide)) (t_istore_n d_M_same_15 rfl (by decide)) rfl) (s_seq (sl1 := [(0, 1), (1, 1), (2, 1)]) (p1 := 63) (s_blk (sl1 := [(0, 1), (1, 1), (2, 1), (3, 1)]) (s_seq (sl1 := [(0, 1), (1, 1), (2, 1), (3, 1)]) (p1 := 18) (s_decl (p1 := 17) (e_iconst d_M_same_16 (by decide)) (t_istore_n d_M_same_17 rfl (by decide)) rfl) (s_for (pt := 31) (pu := 57) (pf := 63) (pg := 0) (c_icmp_geF (p1 := 19) (p2 := 28) (tg := 63) (e_iload_n (k0 := 3) d_M_same_18 rfl rfl) (e_iald (p1 := 23) (p2 := 27) (e_gR (k0 := 25) (p1 := 20) cf_12 (e_aload_n (k0 := 0) d_M_same_19 rfl rfl) (by decide) tw_1385 d_M_same_20) (e_gI (k0 := 18) (p1 := 24) cf_12 (e_aload_n (k0 := 0) d_M_same_23 rfl rfl) (by decide) tw_1378 d_M_same_24) d_M_same_27) d_M_same_28 rfl) (s_if (pt := 51) (pf := 57) (c_and (p1 := 36) (c_icmp_eqF (p1 := 32) (p2 := 33) (tg := 57) (e_iload_n (k0 := 3) d_M_same_31 rfl rfl) (e_iload_n (k0 := 1) d_M_same_32 rfl rfl) d_M_same_33 rfl) (c_icmp_neF (p1 := 42) (p2 := 48) (tg := 57) (e_iald (p1 := 40) (p2 := 41) (e_gR (k0 := 52) (p1 := 37) cf_12 (e_aload_n (k0 := 0) d_M_same_36 rfl rfl) (by decide) tw_1412 d_M_same_37) (e_iload_n (k0 := 3) d_M_same_40 rfl rfl) d_M_same_41) (e_iald (p1 := 46) (p2 := 47) (e_gR (k0 := 52) (p1 := 43) cf_12 (e_aload_n (k0 := 0) d_M_same_42 rfl rfl) (by decide) tw_1412 d_M_same_43) (e_iload_n (k0 := 1) d_M_same_46 rfl rfl) d_M_same_47) d_M_same_48 rfl)) (s_set (k0 := 2) (p1 := 56) (e_ior (p1 := 52) (p2 := 55) (e_iload_n (k0 := 2) d_M_same_51 rfl rfl) (e_ishl (p1 := 53) (p2 := 54) (e_iconst d_M_same_52 (by decide)) (e_iload_n (k0 := 3) d_M_same_53 rfl rfl) d_M_same_54) d_M_same_55) (t_istore_n d_M_same_56 rfl (by decide)) rfl rfl) s_skip) (s_goto (p1 := 60) (s_inc (k0 := 3) d_M_same_57 rfl rfl (Nat.le_of_ble_eq_true rfl) rfl) d_M_same_60 rfl))) rfl) (s_ret (p1 := 64) (e_iload_n (k0 := 2) d_M_same_63 rfl rfl) rfl d_M_same_64))))))
/-! BlinkerCrossModel.then(III)I -/
abbrev y_M_then : MethodName := ⟨"BlinkerCrossModel", "then", "(III)I"⟩
abbrev Y_M_then : Yt := (prog_14_method_114_code, 4, "BlinkerCrossModel", 8, (some .int), "then")
theorem d_M_then_0 : decode prog_14_method_114_code 0 = .ok (.aload_n 0, 1) := by decide +kernel
theorem d_M_then_1 : decode prog_14_method_114_code 1 = .ok (.iload_n 1, 1) := by decide +kernel
theorem d_M_then_2 : decode prog_14_method_114_code 2 = .ok (.invokevirtual 345, 3) := by decide +kernel
theorem d_M_then_5 : decode prog_14_method_114_code 5 = .ok (.ifCond .eq 19, 3) := by decide +kernel
theorem d_M_then_8 : decode prog_14_method_114_code 8 = .ok (.iload_n 2, 1) := by decide +kernel
theorem d_M_then_9 : decode prog_14_method_114_code 9 = .ok (.invokestatic 429, 3) := by decide +kernel
theorem d_M_then_12 : decode prog_14_method_114_code 12 = .ok (.ifCond .eq 12, 3) := by decide +kernel
theorem d_M_then_15 : decode prog_14_method_114_code 15 = .ok (.iload_n 3, 1) := by decide +kernel
theorem d_M_then_16 : decode prog_14_method_114_code 16 = .ok (.iconst 0, 1) := by decide +kernel
theorem d_M_then_17 : decode prog_14_method_114_code 17 = .ok (.iconst 2, 1) := by decide +kernel
theorem d_M_then_18 : decode prog_14_method_114_code 18 = .ok (.invokestatic 319, 3) := by decide +kernel
theorem d_M_then_21 : decode prog_14_method_114_code 21 = .ok (.ifCond .ne 5, 3) := by decide +kernel
theorem d_M_then_24 : decode prog_14_method_114_code 24 = .ok (.iconst (-1), 1) := by decide +kernel
theorem d_M_then_25 : decode prog_14_method_114_code 25 = .ok (.ireturn, 1) := by decide +kernel
theorem d_M_then_26 : decode prog_14_method_114_code 26 = .ok (.aload_n 0, 1) := by decide +kernel
theorem d_M_then_27 : decode prog_14_method_114_code 27 = .ok (.invokevirtual 357, 3) := by decide +kernel
theorem d_M_then_30 : decode prog_14_method_114_code 30 = .ok (.aload_n 0, 1) := by decide +kernel
theorem d_M_then_31 : decode prog_14_method_114_code 31 = .ok (.iload_n 2, 1) := by decide +kernel
theorem d_M_then_32 : decode prog_14_method_114_code 32 = .ok (.invokevirtual 432, 3) := by decide +kernel
theorem d_M_then_35 : decode prog_14_method_114_code 35 = .ok (.iload_n 3, 1) := by decide +kernel
theorem d_M_then_36 : decode prog_14_method_114_code 36 = .ok (.ifCond .ne 15, 3) := by decide +kernel
theorem d_M_then_39 : decode prog_14_method_114_code 39 = .ok (.aload_n 0, 1) := by decide +kernel
theorem d_M_then_40 : decode prog_14_method_114_code 40 = .ok (.getfield 110, 3) := by decide +kernel
theorem d_M_then_43 : decode prog_14_method_114_code 43 = .ok (.bipush 15, 2) := by decide +kernel
theorem d_M_then_45 : decode prog_14_method_114_code 45 = .ok (.iload_n 1, 1) := by decide +kernel
theorem d_M_then_46 : decode prog_14_method_114_code 46 = .ok (.iadd, 1) := by decide +kernel
theorem d_M_then_47 : decode prog_14_method_114_code 47 = .ok (.iaload, 1) := by decide +kernel
theorem d_M_then_48 : decode prog_14_method_114_code 48 = .ok (.goto 25, 3) := by decide +kernel
theorem d_M_then_51 : decode prog_14_method_114_code 51 = .ok (.iload_n 3, 1) := by decide +kernel
theorem d_M_then_52 : decode prog_14_method_114_code 52 = .ok (.iconst 1, 1) := by decide +kernel
theorem d_M_then_53 : decode prog_14_method_114_code 53 = .ok (.if_icmp .ne 12, 3) := by decide +kernel
theorem d_M_then_56 : decode prog_14_method_114_code 56 = .ok (.aload_n 0, 1) := by decide +kernel
theorem d_M_then_57 : decode prog_14_method_114_code 57 = .ok (.getfield 110, 3) := by decide +kernel
theorem d_M_then_60 : decode prog_14_method_114_code 60 = .ok (.iload_n 1, 1) := by decide +kernel
theorem d_M_then_61 : decode prog_14_method_114_code 61 = .ok (.iaload, 1) := by decide +kernel
theorem d_M_then_62 : decode prog_14_method_114_code 62 = .ok (.goto 11, 3) := by decide +kernel
theorem d_M_then_65 : decode prog_14_method_114_code 65 = .ok (.aload_n 0, 1) := by decide +kernel
theorem d_M_then_66 : decode prog_14_method_114_code 66 = .ok (.getfield 110, 3) := by decide +kernel
theorem d_M_then_69 : decode prog_14_method_114_code 69 = .ok (.iconst 5, 1) := by decide +kernel
theorem d_M_then_70 : decode prog_14_method_114_code 70 = .ok (.iload_n 1, 1) := by decide +kernel
theorem d_M_then_71 : decode prog_14_method_114_code 71 = .ok (.iadd, 1) := by decide +kernel
theorem d_M_then_72 : decode prog_14_method_114_code 72 = .ok (.iaload, 1) := by decide +kernel
theorem d_M_then_73 : decode prog_14_method_114_code 73 = .ok (.ireturn, 1) := by decide +kernel
noncomputable def F_M_then : Sm := sSeq (sIf (cOr (cOr (cNot (o1 (fun x => decide (x ≠ 0)) (cI (mV 12 D_M_isGoer) [asV Value.ref (vR 0), asV Value.int (vI 1)]))) (cNot (o1 (fun x => decide (x ≠ 0)) (cI (D_M_isLong) [asV Value.int (vI 2)])))) (cNot (o1 (fun x => decide (x ≠ 0)) (cI (D_M_in) [asV Value.int (vI 3), asV Value.int (kI (ii 0)), asV Value.int (kI (ii 2))])))) (sRet (asV Value.int (kI (ii (-1))))) (sSkip)) (sSeq (sCall (mV 12 D_M_copies) [asV Value.ref (vR 0)]) (sSeq (sCall (mV 12 D_M_goes) [asV Value.ref (vR 0), asV Value.int (vI 2)]) (sRet (asV Value.int (iX (o1 (fun x => decide (x = 0)) (vI 3)) (aI 0 (gR 12 48 (vR 0)) (o2 (fun x y => x + y) (kI (ii 15)) (vI 1))) (iX (o2 (fun x y => decide (x = y)) (vI 3) (kI (ii 1))) (aI 0 (gR 12 48 (vR 0)) (vI 1)) (aI 0 (gR 12 48 (vR 0)) (o2 (fun x y => x + y) (kI (ii 5)) (vI 1)))))))))
theorem mf_M_then : Mf y_M_then prog_14_method_114_code 4 (some .int) 3 := ⟨tw_1994, tw_134, by decide +kernel⟩
noncomputable def D_M_then : Dn := runS [1, 1, 1, 1] F_M_then
theorem ok_M_then : MOK y_M_then prog_14_method_114_code 4 (some .int) 8 0 0 D_M_then := MOK.of (by decide) (by decide) (show SO Y_M_then [(0, 1), (1, 1), (2, 1), (3, 1)] [(0, 1), (1, 1), (2, 1), (3, 1)] 0 74 (([], 0), ([], 0)) F_M_then from
  (s_seq (sl1 := [(0, 1), (1, 1), (2, 1), (3, 1)]) (p1 := 26) (s_if (pt := 24) (pf := 26) (c_or (p1 := 15) (c_or (p1 := 8) (c_not (c_if_eqF (p1 := 5) (tg := 24) (e_cI (p1 := 2) (a_cons (ι := Value.ref) (k0 := 1) (p1 := 1) (fun _ => rfl) (e_aload_n (k0 := 0) d_M_then_0 rfl rfl) (a_cons (ι := Value.int) (k0 := 1) (p1 := 2) (fun _ => rfl) (e_iload_n (k0 := 1) d_M_then_1 rfl rfl) a_nil)) (k_virt ok_M_isGoer mf_M_isGoer ⟨tw_1715, tw_75⟩ rfl tw_1713 d_M_then_2 (by decide) (by decide) (by decide))) d_M_then_5 rfl)) (c_not (c_if_eqF (p1 := 12) (tg := 24) (e_cI (p1 := 9) (a_cons (ι := Value.int) (k0 := 1) (p1 := 9) (fun _ => rfl) (e_iload_n (k0 := 2) d_M_then_8 rfl rfl) a_nil) (k_stat ok_M_isLong mf_M_isLong tw_1834 tw_1833 d_M_then_9 (by decide) (by decide) (by decide))) d_M_then_12 rfl))) (c_not (c_if_neT (p1 := 21) (tg := 26) (e_cI (p1 := 18) (a_cons (ι := Value.int) (k0 := 1) (p1 := 16) (fun _ => rfl) (e_iload_n (k0 := 3) d_M_then_15 rfl rfl) (a_cons (ι := Value.int) (k0 := 1) (p1 := 17) (fun _ => rfl) (e_iconst d_M_then_16 (by decide)) (a_cons (ι := Value.int) (k0 := 1) (p1 := 18) (fun _ => rfl) (e_iconst d_M_then_17 (by decide)) a_nil))) (k_stat ok_M_in mf_M_in tw_1703 tw_1702 d_M_then_18 (by decide) (by decide) (by decide))) d_M_then_21 rfl))) (s_ret (p1 := 25) (e_iconst d_M_then_24 (by decide)) rfl d_M_then_25) s_skip) (s_seq (sl1 := [(0, 1), (1, 1), (2, 1), (3, 1)]) (p1 := 30) (s_call (p1 := 27) (a_cons (ι := Value.ref) (k0 := 1) (p1 := 27) (fun _ => rfl) (e_aload_n (k0 := 0) d_M_then_26 rfl rfl) a_nil) (k_virt ok_M_copies mf_M_copies ⟨tw_1707, tw_73⟩ rfl tw_1705 d_M_then_27 (by decide) (by decide) (by decide))) (s_seq (sl1 := [(0, 1), (1, 1), (2, 1), (3, 1)]) (p1 := 35) (s_call (p1 := 32) (a_cons (ι := Value.ref) (k0 := 1) (p1 := 31) (fun _ => rfl) (e_aload_n (k0 := 0) d_M_then_30 rfl rfl) (a_cons (ι := Value.int) (k0 := 1) (p1 := 32) (fun _ => rfl) (e_iload_n (k0 := 2) d_M_then_31 rfl rfl) a_nil)) (k_virt ok_M_goes mf_M_goes ⟨tw_1838, tw_96⟩ rfl tw_1836 d_M_then_32 (by decide) (by decide) (by decide))) (s_ret (p1 := 73) (e_ite (pt := 39) (p1 := 48) (pf := 51) (c_if_neF (p1 := 36) (tg := 51) (e_iload_n (k0 := 3) d_M_then_35 rfl rfl) d_M_then_36 rfl) (e_iald (p1 := 43) (p2 := 47) (e_gR (k0 := 48) (p1 := 40) cf_12 (e_aload_n (k0 := 0) d_M_then_39 rfl rfl) (by decide) tw_1408 d_M_then_40) (e_iadd (p1 := 45) (p2 := 46) (e_bipush d_M_then_43 (by decide)) (e_iload_n (k0 := 1) d_M_then_45 rfl rfl) d_M_then_46) d_M_then_47) d_M_then_48 rfl (e_ite (pt := 56) (p1 := 62) (pf := 65) (c_icmp_neF (p1 := 52) (p2 := 53) (tg := 65) (e_iload_n (k0 := 3) d_M_then_51 rfl rfl) (e_iconst d_M_then_52 (by decide)) d_M_then_53 rfl) (e_iald (p1 := 60) (p2 := 61) (e_gR (k0 := 48) (p1 := 57) cf_12 (e_aload_n (k0 := 0) d_M_then_56 rfl rfl) (by decide) tw_1408 d_M_then_57) (e_iload_n (k0 := 1) d_M_then_60 rfl rfl) d_M_then_61) d_M_then_62 rfl (e_iald (p1 := 69) (p2 := 72) (e_gR (k0 := 48) (p1 := 66) cf_12 (e_aload_n (k0 := 0) d_M_then_65 rfl rfl) (by decide) tw_1408 d_M_then_66) (e_iadd (p1 := 70) (p2 := 71) (e_iconst d_M_then_69 (by decide)) (e_iload_n (k0 := 1) d_M_then_70 rfl rfl) d_M_then_71) d_M_then_72))) rfl d_M_then_73)))))
/-! BlinkerCrossModel.gainedIn(II)I -/
abbrev y_M_gainedIn : MethodName := ⟨"BlinkerCrossModel", "gainedIn", "(II)I"⟩
abbrev Y_M_gainedIn : Yt := (prog_14_method_115_code, 3, "BlinkerCrossModel", 8, (some .int), "gainedIn")
theorem d_M_gainedIn_0 : decode prog_14_method_115_code 0 = .ok (.aload_n 0, 1) := by decide +kernel
theorem d_M_gainedIn_1 : decode prog_14_method_115_code 1 = .ok (.iload_n 1, 1) := by decide +kernel
theorem d_M_gainedIn_2 : decode prog_14_method_115_code 2 = .ok (.invokevirtual 345, 3) := by decide +kernel
theorem d_M_gainedIn_5 : decode prog_14_method_115_code 5 = .ok (.ifCond .eq 10, 3) := by decide +kernel
theorem d_M_gainedIn_8 : decode prog_14_method_115_code 8 = .ok (.iload_n 2, 1) := by decide +kernel
theorem d_M_gainedIn_9 : decode prog_14_method_115_code 9 = .ok (.invokestatic 429, 3) := by decide +kernel
theorem d_M_gainedIn_12 : decode prog_14_method_115_code 12 = .ok (.ifCond .ne 7, 3) := by decide +kernel
theorem d_M_gainedIn_15 : decode prog_14_method_115_code 15 = .ok (.ldc_w 421, 3) := by decide +kernel
theorem d_M_gainedIn_18 : decode prog_14_method_115_code 18 = .ok (.ireturn, 1) := by decide +kernel
theorem d_M_gainedIn_19 : decode prog_14_method_115_code 19 = .ok (.aload_n 0, 1) := by decide +kernel
theorem d_M_gainedIn_20 : decode prog_14_method_115_code 20 = .ok (.invokevirtual 357, 3) := by decide +kernel
theorem d_M_gainedIn_23 : decode prog_14_method_115_code 23 = .ok (.aload_n 0, 1) := by decide +kernel
theorem d_M_gainedIn_24 : decode prog_14_method_115_code 24 = .ok (.iload_n 2, 1) := by decide +kernel
theorem d_M_gainedIn_25 : decode prog_14_method_115_code 25 = .ok (.invokevirtual 432, 3) := by decide +kernel
theorem d_M_gainedIn_28 : decode prog_14_method_115_code 28 = .ok (.aload_n 0, 1) := by decide +kernel
theorem d_M_gainedIn_29 : decode prog_14_method_115_code 29 = .ok (.getfield 110, 3) := by decide +kernel
theorem d_M_gainedIn_32 : decode prog_14_method_115_code 32 = .ok (.bipush 20, 2) := by decide +kernel
theorem d_M_gainedIn_34 : decode prog_14_method_115_code 34 = .ok (.iload_n 1, 1) := by decide +kernel
theorem d_M_gainedIn_35 : decode prog_14_method_115_code 35 = .ok (.iadd, 1) := by decide +kernel
theorem d_M_gainedIn_36 : decode prog_14_method_115_code 36 = .ok (.iaload, 1) := by decide +kernel
theorem d_M_gainedIn_37 : decode prog_14_method_115_code 37 = .ok (.ireturn, 1) := by decide +kernel
noncomputable def F_M_gainedIn : Sm := sSeq (sIf (cOr (cNot (o1 (fun x => decide (x ≠ 0)) (cI (mV 12 D_M_isGoer) [asV Value.ref (vR 0), asV Value.int (vI 1)]))) (cNot (o1 (fun x => decide (x ≠ 0)) (cI (D_M_isLong) [asV Value.int (vI 2)])))) (sRet (asV Value.int (kI (ii (-100000))))) (sSkip)) (sSeq (sCall (mV 12 D_M_copies) [asV Value.ref (vR 0)]) (sSeq (sCall (mV 12 D_M_goes) [asV Value.ref (vR 0), asV Value.int (vI 2)]) (sRet (asV Value.int (aI 0 (gR 12 48 (vR 0)) (o2 (fun x y => x + y) (kI (ii 20)) (vI 1)))))))
theorem mf_M_gainedIn : Mf y_M_gainedIn prog_14_method_115_code 3 (some .int) 2 := ⟨tw_1998, tw_134, by decide +kernel⟩
noncomputable def D_M_gainedIn : Dn := runS [1, 1, 1] F_M_gainedIn
theorem ok_M_gainedIn : MOK y_M_gainedIn prog_14_method_115_code 3 (some .int) 8 0 0 D_M_gainedIn := MOK.of (by decide) (by decide) (show SO Y_M_gainedIn [(0, 1), (1, 1), (2, 1)] [(0, 1), (1, 1), (2, 1)] 0 38 (([], 0), ([], 0)) F_M_gainedIn from
  (s_seq (sl1 := [(0, 1), (1, 1), (2, 1)]) (p1 := 19) (s_if (pt := 15) (pf := 19) (c_or (p1 := 8) (c_not (c_if_eqF (p1 := 5) (tg := 15) (e_cI (p1 := 2) (a_cons (ι := Value.ref) (k0 := 1) (p1 := 1) (fun _ => rfl) (e_aload_n (k0 := 0) d_M_gainedIn_0 rfl rfl) (a_cons (ι := Value.int) (k0 := 1) (p1 := 2) (fun _ => rfl) (e_iload_n (k0 := 1) d_M_gainedIn_1 rfl rfl) a_nil)) (k_virt ok_M_isGoer mf_M_isGoer ⟨tw_1715, tw_75⟩ rfl tw_1713 d_M_gainedIn_2 (by decide) (by decide) (by decide))) d_M_gainedIn_5 rfl)) (c_not (c_if_neT (p1 := 12) (tg := 19) (e_cI (p1 := 9) (a_cons (ι := Value.int) (k0 := 1) (p1 := 9) (fun _ => rfl) (e_iload_n (k0 := 2) d_M_gainedIn_8 rfl rfl) a_nil) (k_stat ok_M_isLong mf_M_isLong tw_1834 tw_1833 d_M_gainedIn_9 (by decide) (by decide) (by decide))) d_M_gainedIn_12 rfl))) (s_ret (p1 := 18) (e_ldcw d_M_gainedIn_15 tw_1796) rfl d_M_gainedIn_18) s_skip) (s_seq (sl1 := [(0, 1), (1, 1), (2, 1)]) (p1 := 23) (s_call (p1 := 20) (a_cons (ι := Value.ref) (k0 := 1) (p1 := 20) (fun _ => rfl) (e_aload_n (k0 := 0) d_M_gainedIn_19 rfl rfl) a_nil) (k_virt ok_M_copies mf_M_copies ⟨tw_1707, tw_73⟩ rfl tw_1705 d_M_gainedIn_20 (by decide) (by decide) (by decide))) (s_seq (sl1 := [(0, 1), (1, 1), (2, 1)]) (p1 := 28) (s_call (p1 := 25) (a_cons (ι := Value.ref) (k0 := 1) (p1 := 24) (fun _ => rfl) (e_aload_n (k0 := 0) d_M_gainedIn_23 rfl rfl) (a_cons (ι := Value.int) (k0 := 1) (p1 := 25) (fun _ => rfl) (e_iload_n (k0 := 2) d_M_gainedIn_24 rfl rfl) a_nil)) (k_virt ok_M_goes mf_M_goes ⟨tw_1838, tw_96⟩ rfl tw_1836 d_M_gainedIn_25 (by decide) (by decide) (by decide))) (s_ret (p1 := 37) (e_iald (p1 := 32) (p2 := 36) (e_gR (k0 := 48) (p1 := 29) cf_12 (e_aload_n (k0 := 0) d_M_gainedIn_28 rfl rfl) (by decide) tw_1408 d_M_gainedIn_29) (e_iadd (p1 := 34) (p2 := 35) (e_bipush d_M_gainedIn_32 (by decide)) (e_iload_n (k0 := 1) d_M_gainedIn_34 rfl rfl) d_M_gainedIn_35) d_M_gainedIn_36) rfl d_M_gainedIn_37)))))
/-! BlinkerCrossModel.year(IIII)I -/
abbrev y_M_year : MethodName := ⟨"BlinkerCrossModel", "year", "(IIII)I"⟩
abbrev Y_M_year : Yt := (prog_14_method_116_code, 7, "BlinkerCrossModel", 8, (some .int), "year")
theorem d_M_year_0 : decode prog_14_method_116_code 0 = .ok (.aload_n 0, 1) := by decide +kernel
theorem d_M_year_1 : decode prog_14_method_116_code 1 = .ok (.iload_n 1, 1) := by decide +kernel
theorem d_M_year_2 : decode prog_14_method_116_code 2 = .ok (.invokevirtual 345, 3) := by decide +kernel
theorem d_M_year_5 : decode prog_14_method_116_code 5 = .ok (.ifCond .eq 29, 3) := by decide +kernel
theorem d_M_year_8 : decode prog_14_method_116_code 8 = .ok (.aload_n 0, 1) := by decide +kernel
theorem d_M_year_9 : decode prog_14_method_116_code 9 = .ok (.iload_n 2, 1) := by decide +kernel
theorem d_M_year_10 : decode prog_14_method_116_code 10 = .ok (.invokevirtual 412, 3) := by decide +kernel
theorem d_M_year_13 : decode prog_14_method_116_code 13 = .ok (.ifCond .eq 21, 3) := by decide +kernel
theorem d_M_year_16 : decode prog_14_method_116_code 16 = .ok (.iload_n 3, 1) := by decide +kernel
theorem d_M_year_17 : decode prog_14_method_116_code 17 = .ok (.invokestatic 429, 3) := by decide +kernel
theorem d_M_year_20 : decode prog_14_method_116_code 20 = .ok (.ifCond .eq 14, 3) := by decide +kernel
theorem d_M_year_23 : decode prog_14_method_116_code 23 = .ok (.iload 4, 2) := by decide +kernel
theorem d_M_year_25 : decode prog_14_method_116_code 25 = .ok (.iconst 1, 1) := by decide +kernel
theorem d_M_year_26 : decode prog_14_method_116_code 26 = .ok (.bipush 20, 2) := by decide +kernel
theorem d_M_year_28 : decode prog_14_method_116_code 28 = .ok (.invokestatic 319, 3) := by decide +kernel
theorem d_M_year_31 : decode prog_14_method_116_code 31 = .ok (.ifCond .ne 5, 3) := by decide +kernel
theorem d_M_year_34 : decode prog_14_method_116_code 34 = .ok (.iconst (-1), 1) := by decide +kernel
theorem d_M_year_35 : decode prog_14_method_116_code 35 = .ok (.ireturn, 1) := by decide +kernel
theorem d_M_year_36 : decode prog_14_method_116_code 36 = .ok (.iconst 0, 1) := by decide +kernel
theorem d_M_year_37 : decode prog_14_method_116_code 37 = .ok (.istore 5, 2) := by decide +kernel
theorem d_M_year_39 : decode prog_14_method_116_code 39 = .ok (.iconst 0, 1) := by decide +kernel
theorem d_M_year_40 : decode prog_14_method_116_code 40 = .ok (.istore 6, 2) := by decide +kernel
theorem d_M_year_42 : decode prog_14_method_116_code 42 = .ok (.iload 6, 2) := by decide +kernel
theorem d_M_year_44 : decode prog_14_method_116_code 44 = .ok (.iload 4, 2) := by decide +kernel
theorem d_M_year_46 : decode prog_14_method_116_code 46 = .ok (.if_icmp .ge 42, 3) := by decide +kernel
theorem d_M_year_49 : decode prog_14_method_116_code 49 = .ok (.aload_n 0, 1) := by decide +kernel
theorem d_M_year_50 : decode prog_14_method_116_code 50 = .ok (.invokevirtual 357, 3) := by decide +kernel
theorem d_M_year_53 : decode prog_14_method_116_code 53 = .ok (.aload_n 0, 1) := by decide +kernel
theorem d_M_year_54 : decode prog_14_method_116_code 54 = .ok (.dup, 1) := by decide +kernel
theorem d_M_year_55 : decode prog_14_method_116_code 55 = .ok (.getfield 323, 3) := by decide +kernel
theorem d_M_year_58 : decode prog_14_method_116_code 58 = .ok (.iload 6, 2) := by decide +kernel
theorem d_M_year_60 : decode prog_14_method_116_code 60 = .ok (.iadd, 1) := by decide +kernel
theorem d_M_year_61 : decode prog_14_method_116_code 61 = .ok (.putfield 323, 3) := by decide +kernel
theorem d_M_year_64 : decode prog_14_method_116_code 64 = .ok (.aload_n 0, 1) := by decide +kernel
theorem d_M_year_65 : decode prog_14_method_116_code 65 = .ok (.iload_n 3, 1) := by decide +kernel
theorem d_M_year_66 : decode prog_14_method_116_code 66 = .ok (.invokevirtual 432, 3) := by decide +kernel
theorem d_M_year_69 : decode prog_14_method_116_code 69 = .ok (.aload_n 0, 1) := by decide +kernel
theorem d_M_year_70 : decode prog_14_method_116_code 70 = .ok (.getfield 113, 3) := by decide +kernel
theorem d_M_year_73 : decode prog_14_method_116_code 73 = .ok (.iload_n 1, 1) := by decide +kernel
theorem d_M_year_74 : decode prog_14_method_116_code 74 = .ok (.iaload, 1) := by decide +kernel
theorem d_M_year_75 : decode prog_14_method_116_code 75 = .ok (.iload_n 2, 1) := by decide +kernel
theorem d_M_year_76 : decode prog_14_method_116_code 76 = .ok (.if_icmp .ne 6, 3) := by decide +kernel
theorem d_M_year_79 : decode prog_14_method_116_code 79 = .ok (.iinc 5 1, 3) := by decide +kernel
theorem d_M_year_82 : decode prog_14_method_116_code 82 = .ok (.iinc 6 1, 3) := by decide +kernel
theorem d_M_year_85 : decode prog_14_method_116_code 85 = .ok (.goto (-43), 3) := by decide +kernel
theorem d_M_year_88 : decode prog_14_method_116_code 88 = .ok (.iload 5, 2) := by decide +kernel
theorem d_M_year_90 : decode prog_14_method_116_code 90 = .ok (.ireturn, 1) := by decide +kernel
noncomputable def Lc_M_year_1 : Xp Bool := o2 (fun x y => decide (x < y)) (vI 6) (vI 4)
noncomputable def Lb_M_year_1 : Sm := sSeq (sCall (mV 12 D_M_copies) [asV Value.ref (vR 0)]) (sSeq (sFop 12 49 (vR 0) (fun x y => x + y) (vI 6)) (sSeq (sCall (mV 12 D_M_goes) [asV Value.ref (vR 0), asV Value.int (vI 3)]) (sIf (o2 (fun x y => decide (x = y)) (aI 0 (gR 12 52 (vR 0)) (vI 1)) (vI 2)) (sInc 5 (ii 1)) (sSkip))))
noncomputable def Lu_M_year_1 : Sm := sInc 6 (ii 1)
noncomputable def F_M_year : Sm := sSeq (sIf (cOr (cOr (cOr (cNot (o1 (fun x => decide (x ≠ 0)) (cI (mV 12 D_M_isGoer) [asV Value.ref (vR 0), asV Value.int (vI 1)]))) (cNot (o1 (fun x => decide (x ≠ 0)) (cI (mV 12 D_M_isRoad) [asV Value.ref (vR 0), asV Value.int (vI 2)])))) (cNot (o1 (fun x => decide (x ≠ 0)) (cI (D_M_isLong) [asV Value.int (vI 3)])))) (cNot (o1 (fun x => decide (x ≠ 0)) (cI (D_M_in) [asV Value.int (vI 4), asV Value.int (kI (ii 1)), asV Value.int (kI (ii 20))])))) (sRet (asV Value.int (kI (ii (-1))))) (sSkip)) (sSeq (sDecl (asV Value.int (kI (ii 0)))) (sSeq (sBlk 6 (sSeq (sDecl (asV Value.int (kI (ii 0)))) (sWh (Lc_M_year_1) (Lb_M_year_1) Lu_M_year_1))) (sRet (asV Value.int (vI 5)))))
theorem mf_M_year : Mf y_M_year prog_14_method_116_code 7 (some .int) 4 := ⟨tw_2002, tw_134, by decide +kernel⟩
noncomputable def D_M_year : Dn := runS [1, 1, 1, 1, 1] F_M_year
theorem ok_M_year : MOK y_M_year prog_14_method_116_code 7 (some .int) 8 0 0 D_M_year := MOK.of (by decide) (by decide) (show SO Y_M_year [(0, 1), (1, 1), (2, 1), (3, 1), (4, 1)] [(0, 1), (1, 1), (2, 1), (3, 1), (4, 1), (5, 1)] 0 91 (([], 0), ([], 0)) F_M_year from
  (s_seq (sl1 := [(0, 1), (1, 1), (2, 1), (3, 1), (4, 1)]) (p1 := 36) (s_if (pt := 34) (pf := 36) (c_or (p1 := 23) (c_or (p1 := 16) (c_or (p1 := 8) (c_not (c_if_eqF (p1 := 5) (tg := 34) (e_cI (p1 := 2) (a_cons (ι := Value.ref) (k0 := 1) (p1 := 1) (fun _ => rfl) (e_aload_n (k0 := 0) d_M_year_0 rfl rfl) (a_cons (ι := Value.int) (k0 := 1) (p1 := 2) (fun _ => rfl) (e_iload_n (k0 := 1) d_M_year_1 rfl rfl) a_nil)) (k_virt ok_M_isGoer mf_M_isGoer ⟨tw_1715, tw_75⟩ rfl tw_1713 d_M_year_2 (by decide) (by decide) (by decide))) d_M_year_5 rfl)) (c_not (c_if_eqF (p1 := 13) (tg := 34) (e_cI (p1 := 10) (a_cons (ι := Value.ref) (k0 := 1) (p1 := 9) (fun _ => rfl) (e_aload_n (k0 := 0) d_M_year_8 rfl rfl) (a_cons (ι := Value.int) (k0 := 1) (p1 := 10) (fun _ => rfl) (e_iload_n (k0 := 2) d_M_year_9 rfl rfl) a_nil)) (k_virt ok_M_isRoad mf_M_isRoad ⟨tw_1700, tw_72⟩ rfl tw_1698 d_M_year_10 (by decide) (by decide) (by decide))) d_M_year_13 rfl))) (c_not (c_if_eqF (p1 := 20) (tg := 34) (e_cI (p1 := 17) (a_cons (ι := Value.int) (k0 := 1) (p1 := 17) (fun _ => rfl) (e_iload_n (k0 := 3) d_M_year_16 rfl rfl) a_nil) (k_stat ok_M_isLong mf_M_isLong tw_1834 tw_1833 d_M_year_17 (by decide) (by decide) (by decide))) d_M_year_20 rfl))) (c_not (c_if_neT (p1 := 31) (tg := 36) (e_cI (p1 := 28) (a_cons (ι := Value.int) (k0 := 1) (p1 := 25) (fun _ => rfl) (e_iload (k0 := 4) d_M_year_23 rfl) (a_cons (ι := Value.int) (k0 := 1) (p1 := 26) (fun _ => rfl) (e_iconst d_M_year_25 (by decide)) (a_cons (ι := Value.int) (k0 := 1) (p1 := 28) (fun _ => rfl) (e_bipush d_M_year_26 (by decide)) a_nil))) (k_stat ok_M_in mf_M_in tw_1703 tw_1702 d_M_year_28 (by decide) (by decide) (by decide))) d_M_year_31 rfl))) (s_ret (p1 := 35) (e_iconst d_M_year_34 (by decide)) rfl d_M_year_35) s_skip) (s_seq (sl1 := [(0, 1), (1, 1), (2, 1), (3, 1), (4, 1), (5, 1)]) (p1 := 39) (s_decl (p1 := 37) (e_iconst d_M_year_36 (by decide)) (t_istore d_M_year_37 (by decide)) rfl) (s_seq (sl1 := [(0, 1), (1, 1), (2, 1), (3, 1), (4, 1), (5, 1)]) (p1 := 88) (s_blk (sl1 := [(0, 1), (1, 1), (2, 1), (3, 1), (4, 1), (5, 1), (6, 1)]) (s_seq (sl1 := [(0, 1), (1, 1), (2, 1), (3, 1), (4, 1), (5, 1), (6, 1)]) (p1 := 42) (s_decl (p1 := 40) (e_iconst d_M_year_39 (by decide)) (t_istore d_M_year_40 (by decide)) rfl) (s_for (pt := 49) (pu := 82) (pf := 88) (pg := 0) (c_icmp_geF (p1 := 44) (p2 := 46) (tg := 88) (e_iload (k0 := 6) d_M_year_42 rfl) (e_iload (k0 := 4) d_M_year_44 rfl) d_M_year_46 rfl) (s_seq (sl1 := [(0, 1), (1, 1), (2, 1), (3, 1), (4, 1), (5, 1), (6, 1)]) (p1 := 53) (s_call (p1 := 50) (a_cons (ι := Value.ref) (k0 := 1) (p1 := 50) (fun _ => rfl) (e_aload_n (k0 := 0) d_M_year_49 rfl rfl) a_nil) (k_virt ok_M_copies mf_M_copies ⟨tw_1707, tw_73⟩ rfl tw_1705 d_M_year_50 (by decide) (by decide) (by decide))) (s_seq (sl1 := [(0, 1), (1, 1), (2, 1), (3, 1), (4, 1), (5, 1), (6, 1)]) (p1 := 64) (s_fop (k0 := 49) (p1 := 54) (p2 := 60) cf_12 (e_aload_n (k0 := 0) d_M_year_53 rfl rfl) d_M_year_54 d_M_year_55 (e_iload (k0 := 6) d_M_year_58 rfl) (op_iadd d_M_year_60) (by decide) rfl tw_1409 tw_1409 rfl d_M_year_61) (s_seq (sl1 := [(0, 1), (1, 1), (2, 1), (3, 1), (4, 1), (5, 1), (6, 1)]) (p1 := 69) (s_call (p1 := 66) (a_cons (ι := Value.ref) (k0 := 1) (p1 := 65) (fun _ => rfl) (e_aload_n (k0 := 0) d_M_year_64 rfl rfl) (a_cons (ι := Value.int) (k0 := 1) (p1 := 66) (fun _ => rfl) (e_iload_n (k0 := 3) d_M_year_65 rfl rfl) a_nil)) (k_virt ok_M_goes mf_M_goes ⟨tw_1838, tw_96⟩ rfl tw_1836 d_M_year_66 (by decide) (by decide) (by decide))) (s_if (pt := 79) (pf := 82) (c_icmp_neF (p1 := 75) (p2 := 76) (tg := 82) (e_iald (p1 := 73) (p2 := 74) (e_gR (k0 := 52) (p1 := 70) cf_12 (e_aload_n (k0 := 0) d_M_year_69 rfl rfl) (by decide) tw_1412 d_M_year_70) (e_iload_n (k0 := 1) d_M_year_73 rfl rfl) d_M_year_74) (e_iload_n (k0 := 2) d_M_year_75 rfl rfl) d_M_year_76 rfl) (s_inc (k0 := 5) d_M_year_79 rfl rfl (Nat.le_of_ble_eq_true rfl) rfl) s_skip)))) (s_goto (p1 := 85) (s_inc (k0 := 6) d_M_year_82 rfl rfl (Nat.le_of_ble_eq_true rfl) rfl) d_M_year_85 rfl))) rfl) (s_ret (p1 := 90) (e_iload (k0 := 5) d_M_year_88 rfl) rfl d_M_year_90)))))
/-! BlinkerCrossModel.isMark(I)Z -/
abbrev y_M_isMark : MethodName := ⟨"BlinkerCrossModel", "isMark", "(I)Z"⟩
abbrev Y_M_isMark : Yt := (prog_14_method_117_code, 1, "BlinkerCrossModel", 1, (some .boolean), "isMark")
theorem d_M_isMark_0 : decode prog_14_method_117_code 0 = .ok (.iload_n 0, 1) := by decide +kernel
theorem d_M_isMark_1 : decode prog_14_method_117_code 1 = .ok (.iconst 0, 1) := by decide +kernel
theorem d_M_isMark_2 : decode prog_14_method_117_code 2 = .ok (.bipush 99, 2) := by decide +kernel
theorem d_M_isMark_4 : decode prog_14_method_117_code 4 = .ok (.invokestatic 319, 3) := by decide +kernel
theorem d_M_isMark_7 : decode prog_14_method_117_code 7 = .ok (.ireturn, 1) := by decide +kernel
noncomputable def F_M_isMark : Sm := sRetZ (cI (D_M_in) [asV Value.int (vI 0), asV Value.int (kI (ii 0)), asV Value.int (kI (ii 99))])
theorem mf_M_isMark : Mf y_M_isMark prog_14_method_117_code 1 (some .boolean) 1 := ⟨tw_2009, tw_134, by decide +kernel⟩
noncomputable def D_M_isMark : Dn := runS [1] F_M_isMark
theorem ok_M_isMark : MOK y_M_isMark prog_14_method_117_code 1 (some .boolean) 1 0 0 D_M_isMark := MOK.of (by decide) (by decide) (show SO Y_M_isMark [(0, 1)] [(0, 1)] 0 8 (([], 0), ([], 0)) F_M_isMark from
  (s_retZ (p1 := 7) (e_cI (p1 := 4) (a_cons (ι := Value.int) (k0 := 1) (p1 := 1) (fun _ => rfl) (e_iload_n (k0 := 0) d_M_isMark_0 rfl rfl) (a_cons (ι := Value.int) (k0 := 1) (p1 := 2) (fun _ => rfl) (e_iconst d_M_isMark_1 (by decide)) (a_cons (ι := Value.int) (k0 := 1) (p1 := 4) (fun _ => rfl) (e_bipush d_M_isMark_2 (by decide)) a_nil))) (k_stat ok_M_in mf_M_in tw_1703 tw_1702 d_M_isMark_4 (by decide) (by decide) (by decide))) rfl d_M_isMark_7))
/-! BlinkerCrossModel.tell(IIZ)I -/
abbrev y_M_tell : MethodName := ⟨"BlinkerCrossModel", "tell", "(IIZ)I"⟩
abbrev Y_M_tell : Yt := (prog_14_method_118_code, 4, "BlinkerCrossModel", 2, (some .int), "tell")
theorem d_M_tell_0 : decode prog_14_method_118_code 0 = .ok (.aload_n 0, 1) := by decide +kernel
theorem d_M_tell_1 : decode prog_14_method_118_code 1 = .ok (.getfield 263, 3) := by decide +kernel
theorem d_M_tell_4 : decode prog_14_method_118_code 4 = .ok (.bipush 20, 2) := by decide +kernel
theorem d_M_tell_6 : decode prog_14_method_118_code 6 = .ok (.if_icmp .eq 19, 3) := by decide +kernel
theorem d_M_tell_9 : decode prog_14_method_118_code 9 = .ok (.iload_n 1, 1) := by decide +kernel
theorem d_M_tell_10 : decode prog_14_method_118_code 10 = .ok (.iconst 0, 1) := by decide +kernel
theorem d_M_tell_11 : decode prog_14_method_118_code 11 = .ok (.iconst 4, 1) := by decide +kernel
theorem d_M_tell_12 : decode prog_14_method_118_code 12 = .ok (.invokestatic 319, 3) := by decide +kernel
theorem d_M_tell_15 : decode prog_14_method_118_code 15 = .ok (.ifCond .eq 10, 3) := by decide +kernel
theorem d_M_tell_18 : decode prog_14_method_118_code 18 = .ok (.iload_n 2, 1) := by decide +kernel
theorem d_M_tell_19 : decode prog_14_method_118_code 19 = .ok (.invokestatic 501, 3) := by decide +kernel
theorem d_M_tell_22 : decode prog_14_method_118_code 22 = .ok (.ifCond .ne 5, 3) := by decide +kernel
theorem d_M_tell_25 : decode prog_14_method_118_code 25 = .ok (.iconst (-1), 1) := by decide +kernel
theorem d_M_tell_26 : decode prog_14_method_118_code 26 = .ok (.ireturn, 1) := by decide +kernel
theorem d_M_tell_27 : decode prog_14_method_118_code 27 = .ok (.aload_n 0, 1) := by decide +kernel
theorem d_M_tell_28 : decode prog_14_method_118_code 28 = .ok (.getfield 146, 3) := by decide +kernel
theorem d_M_tell_31 : decode prog_14_method_118_code 31 = .ok (.aload_n 0, 1) := by decide +kernel
theorem d_M_tell_32 : decode prog_14_method_118_code 32 = .ok (.getfield 263, 3) := by decide +kernel
theorem d_M_tell_35 : decode prog_14_method_118_code 35 = .ok (.iload_n 1, 1) := by decide +kernel
theorem d_M_tell_36 : decode prog_14_method_118_code 36 = .ok (.iastore, 1) := by decide +kernel
theorem d_M_tell_37 : decode prog_14_method_118_code 37 = .ok (.aload_n 0, 1) := by decide +kernel
theorem d_M_tell_38 : decode prog_14_method_118_code 38 = .ok (.getfield 149, 3) := by decide +kernel
theorem d_M_tell_41 : decode prog_14_method_118_code 41 = .ok (.aload_n 0, 1) := by decide +kernel
theorem d_M_tell_42 : decode prog_14_method_118_code 42 = .ok (.getfield 263, 3) := by decide +kernel
theorem d_M_tell_45 : decode prog_14_method_118_code 45 = .ok (.iload_n 2, 1) := by decide +kernel
theorem d_M_tell_46 : decode prog_14_method_118_code 46 = .ok (.iastore, 1) := by decide +kernel
theorem d_M_tell_47 : decode prog_14_method_118_code 47 = .ok (.aload_n 0, 1) := by decide +kernel
theorem d_M_tell_48 : decode prog_14_method_118_code 48 = .ok (.getfield 152, 3) := by decide +kernel
theorem d_M_tell_51 : decode prog_14_method_118_code 51 = .ok (.aload_n 0, 1) := by decide +kernel
theorem d_M_tell_52 : decode prog_14_method_118_code 52 = .ok (.getfield 263, 3) := by decide +kernel
theorem d_M_tell_55 : decode prog_14_method_118_code 55 = .ok (.iload_n 3, 1) := by decide +kernel
theorem d_M_tell_56 : decode prog_14_method_118_code 56 = .ok (.bastore, 1) := by decide +kernel
theorem d_M_tell_57 : decode prog_14_method_118_code 57 = .ok (.aload_n 0, 1) := by decide +kernel
theorem d_M_tell_58 : decode prog_14_method_118_code 58 = .ok (.dup, 1) := by decide +kernel
theorem d_M_tell_59 : decode prog_14_method_118_code 59 = .ok (.getfield 263, 3) := by decide +kernel
theorem d_M_tell_62 : decode prog_14_method_118_code 62 = .ok (.iconst 1, 1) := by decide +kernel
theorem d_M_tell_63 : decode prog_14_method_118_code 63 = .ok (.iadd, 1) := by decide +kernel
theorem d_M_tell_64 : decode prog_14_method_118_code 64 = .ok (.putfield 263, 3) := by decide +kernel
theorem d_M_tell_67 : decode prog_14_method_118_code 67 = .ok (.aload_n 0, 1) := by decide +kernel
theorem d_M_tell_68 : decode prog_14_method_118_code 68 = .ok (.getfield 263, 3) := by decide +kernel
theorem d_M_tell_71 : decode prog_14_method_118_code 71 = .ok (.iconst 1, 1) := by decide +kernel
theorem d_M_tell_72 : decode prog_14_method_118_code 72 = .ok (.isub, 1) := by decide +kernel
theorem d_M_tell_73 : decode prog_14_method_118_code 73 = .ok (.ireturn, 1) := by decide +kernel
noncomputable def F_M_tell : Sm := sSeq (sIf (cOr (cOr (o2 (fun x y => decide (x = y)) (gI 12 67 (vR 0)) (kI (ii 20))) (cNot (o1 (fun x => decide (x ≠ 0)) (cI (D_M_in) [asV Value.int (vI 1), asV Value.int (kI (ii 0)), asV Value.int (kI (ii 4))])))) (cNot (o1 (fun x => decide (x ≠ 0)) (cI (D_M_isMark) [asV Value.int (vI 2)])))) (sRet (asV Value.int (kI (ii (-1))))) (sSkip)) (sSeq (sAst 0 (gR 12 68 (vR 0)) (gI 12 67 (vR 0)) (vI 1)) (sSeq (sAst 0 (gR 12 69 (vR 0)) (gI 12 67 (vR 0)) (vI 2)) (sSeq (sAst 3 (gR 12 70 (vR 0)) (gI 12 67 (vR 0)) (vI 3)) (sSeq (sFop 12 67 (vR 0) (fun x y => x + y) (kI (ii 1))) (sRet (asV Value.int (o2 (fun x y => x - y) (gI 12 67 (vR 0)) (kI (ii 1)))))))))
theorem mf_M_tell : Mf y_M_tell prog_14_method_118_code 4 (some .int) 3 := ⟨tw_2006, tw_134, by decide +kernel⟩
noncomputable def D_M_tell : Dn := runS [1, 1, 1, 1] F_M_tell
theorem ok_M_tell : MOK y_M_tell prog_14_method_118_code 4 (some .int) 2 0 0 D_M_tell := MOK.of (by decide) (by decide) (show SO Y_M_tell [(0, 1), (1, 1), (2, 1), (3, 1)] [(0, 1), (1, 1), (2, 1), (3, 1)] 0 74 (([], 0), ([], 0)) F_M_tell from
  (s_seq (sl1 := [(0, 1), (1, 1), (2, 1), (3, 1)]) (p1 := 27) (s_if (pt := 25) (pf := 27) (c_or (p1 := 18) (c_or (p1 := 9) (c_icmp_eqT (p1 := 4) (p2 := 6) (tg := 25) (e_gI (k0 := 67) (p1 := 1) cf_12 (e_aload_n (k0 := 0) d_M_tell_0 rfl rfl) (by decide) tw_1427 d_M_tell_1) (e_bipush d_M_tell_4 (by decide)) d_M_tell_6 rfl) (c_not (c_if_eqF (p1 := 15) (tg := 25) (e_cI (p1 := 12) (a_cons (ι := Value.int) (k0 := 1) (p1 := 10) (fun _ => rfl) (e_iload_n (k0 := 1) d_M_tell_9 rfl rfl) (a_cons (ι := Value.int) (k0 := 1) (p1 := 11) (fun _ => rfl) (e_iconst d_M_tell_10 (by decide)) (a_cons (ι := Value.int) (k0 := 1) (p1 := 12) (fun _ => rfl) (e_iconst d_M_tell_11 (by decide)) a_nil))) (k_stat ok_M_in mf_M_in tw_1703 tw_1702 d_M_tell_12 (by decide) (by decide) (by decide))) d_M_tell_15 rfl))) (c_not (c_if_neT (p1 := 22) (tg := 27) (e_cI (p1 := 19) (a_cons (ι := Value.int) (k0 := 1) (p1 := 19) (fun _ => rfl) (e_iload_n (k0 := 2) d_M_tell_18 rfl rfl) a_nil) (k_stat ok_M_isMark mf_M_isMark tw_2008 tw_2007 d_M_tell_19 (by decide) (by decide) (by decide))) d_M_tell_22 rfl))) (s_ret (p1 := 26) (e_iconst d_M_tell_25 (by decide)) rfl d_M_tell_26) s_skip) (s_seq (sl1 := [(0, 1), (1, 1), (2, 1), (3, 1)]) (p1 := 37) (s_ast (p1 := 31) (p2 := 35) (p3 := 36) (e_gR (k0 := 68) (p1 := 28) cf_12 (e_aload_n (k0 := 0) d_M_tell_27 rfl rfl) (by decide) tw_1428 d_M_tell_28) (e_gI (k0 := 67) (p1 := 32) cf_12 (e_aload_n (k0 := 0) d_M_tell_31 rfl rfl) (by decide) tw_1427 d_M_tell_32) (e_iload_n (k0 := 1) d_M_tell_35 rfl rfl) (as_i d_M_tell_36)) (s_seq (sl1 := [(0, 1), (1, 1), (2, 1), (3, 1)]) (p1 := 47) (s_ast (p1 := 41) (p2 := 45) (p3 := 46) (e_gR (k0 := 69) (p1 := 38) cf_12 (e_aload_n (k0 := 0) d_M_tell_37 rfl rfl) (by decide) tw_1429 d_M_tell_38) (e_gI (k0 := 67) (p1 := 42) cf_12 (e_aload_n (k0 := 0) d_M_tell_41 rfl rfl) (by decide) tw_1427 d_M_tell_42) (e_iload_n (k0 := 2) d_M_tell_45 rfl rfl) (as_i d_M_tell_46)) (s_seq (sl1 := [(0, 1), (1, 1), (2, 1), (3, 1)]) (p1 := 57) (s_ast (p1 := 51) (p2 := 55) (p3 := 56) (e_gR (k0 := 70) (p1 := 48) cf_12 (e_aload_n (k0 := 0) d_M_tell_47 rfl rfl) (by decide) tw_1430 d_M_tell_48) (e_gI (k0 := 67) (p1 := 52) cf_12 (e_aload_n (k0 := 0) d_M_tell_51 rfl rfl) (by decide) tw_1427 d_M_tell_52) (e_iload_n (k0 := 3) d_M_tell_55 rfl rfl) (as_z d_M_tell_56)) (s_seq (sl1 := [(0, 1), (1, 1), (2, 1), (3, 1)]) (p1 := 67) (s_fop (k0 := 67) (p1 := 58) (p2 := 63) cf_12 (e_aload_n (k0 := 0) d_M_tell_57 rfl rfl) d_M_tell_58 d_M_tell_59 (e_iconst d_M_tell_62 (by decide)) (op_iadd d_M_tell_63) (by decide) rfl tw_1427 tw_1427 rfl d_M_tell_64) (s_ret (p1 := 73) (e_isub (p1 := 71) (p2 := 72) (e_gI (k0 := 67) (p1 := 68) cf_12 (e_aload_n (k0 := 0) d_M_tell_67 rfl rfl) (by decide) tw_1427 d_M_tell_68) (e_iconst d_M_tell_71 (by decide)) d_M_tell_72) rfl d_M_tell_73)))))))
/-! BlinkerCrossModel.forget()I -/
abbrev y_M_forget : MethodName := ⟨"BlinkerCrossModel", "forget", "()I"⟩
abbrev Y_M_forget : Yt := (prog_14_method_119_code, 2, "BlinkerCrossModel", 0, (some .int), "forget")
theorem d_M_forget_0 : decode prog_14_method_119_code 0 = .ok (.aload_n 0, 1) := by decide +kernel
theorem d_M_forget_1 : decode prog_14_method_119_code 1 = .ok (.getfield 263, 3) := by decide +kernel
theorem d_M_forget_4 : decode prog_14_method_119_code 4 = .ok (.istore_n 1, 1) := by decide +kernel
theorem d_M_forget_5 : decode prog_14_method_119_code 5 = .ok (.aload_n 0, 1) := by decide +kernel
theorem d_M_forget_6 : decode prog_14_method_119_code 6 = .ok (.iconst 0, 1) := by decide +kernel
theorem d_M_forget_7 : decode prog_14_method_119_code 7 = .ok (.putfield 263, 3) := by decide +kernel
theorem d_M_forget_10 : decode prog_14_method_119_code 10 = .ok (.iload_n 1, 1) := by decide +kernel
theorem d_M_forget_11 : decode prog_14_method_119_code 11 = .ok (.ireturn, 1) := by decide +kernel
noncomputable def F_M_forget : Sm := sSeq (sDecl (asV Value.int (gI 12 67 (vR 0)))) (sSeq (sPut 12 67 (vR 0) (asV Value.int (kI (ii 0)))) (sRet (asV Value.int (vI 1))))
theorem mf_M_forget : Mf y_M_forget prog_14_method_119_code 2 (some .int) 0 := ⟨tw_2013, tw_134, by decide +kernel⟩
noncomputable def D_M_forget : Dn := runS [1] F_M_forget
theorem ok_M_forget : MOK y_M_forget prog_14_method_119_code 2 (some .int) 0 0 0 D_M_forget := MOK.of (by decide) (by decide) (show SO Y_M_forget [(0, 1)] [(0, 1), (1, 1)] 0 12 (([], 0), ([], 0)) F_M_forget from
  (s_seq (sl1 := [(0, 1), (1, 1)]) (p1 := 5) (s_decl (p1 := 4) (e_gI (k0 := 67) (p1 := 1) cf_12 (e_aload_n (k0 := 0) d_M_forget_0 rfl rfl) (by decide) tw_1427 d_M_forget_1) (t_istore_n d_M_forget_4 rfl (by decide)) rfl) (s_seq (sl1 := [(0, 1), (1, 1)]) (p1 := 10) (s_put (k0 := 67) (p1 := 6) (p2 := 7) cf_12 (e_aload_n (k0 := 0) d_M_forget_5 rfl rfl) (e_iconst d_M_forget_6 (by decide)) (by decide) fk_i tw_1427 (Or.inl rfl) d_M_forget_7) (s_ret (p1 := 11) (e_iload_n (k0 := 1) d_M_forget_10 rfl rfl) rfl d_M_forget_11))))
/-! BlinkerCrossModel.markOf(II)I -/
abbrev y_M_markOf : MethodName := ⟨"BlinkerCrossModel", "markOf", "(II)I"⟩
abbrev Y_M_markOf : Yt := (prog_14_method_120_code, 3, "BlinkerCrossModel", 4, (some .int), "markOf")
theorem d_M_markOf_0 : decode prog_14_method_120_code 0 = .ok (.iload_n 2, 1) := by decide +kernel
theorem d_M_markOf_1 : decode prog_14_method_120_code 1 = .ok (.tableswitch 56 0 3 #[31, 38, 44, 50], 31) := by decide +kernel
theorem d_M_markOf_32 : decode prog_14_method_120_code 32 = .ok (.aload_n 0, 1) := by decide +kernel
theorem d_M_markOf_33 : decode prog_14_method_120_code 33 = .ok (.getfield 113, 3) := by decide +kernel
theorem d_M_markOf_36 : decode prog_14_method_120_code 36 = .ok (.iload_n 1, 1) := by decide +kernel
theorem d_M_markOf_37 : decode prog_14_method_120_code 37 = .ok (.iaload, 1) := by decide +kernel
theorem d_M_markOf_38 : decode prog_14_method_120_code 38 = .ok (.ireturn, 1) := by decide +kernel
theorem d_M_markOf_39 : decode prog_14_method_120_code 39 = .ok (.aload_n 0, 1) := by decide +kernel
theorem d_M_markOf_40 : decode prog_14_method_120_code 40 = .ok (.iload_n 1, 1) := by decide +kernel
theorem d_M_markOf_41 : decode prog_14_method_120_code 41 = .ok (.invokevirtual 391, 3) := by decide +kernel
theorem d_M_markOf_44 : decode prog_14_method_120_code 44 = .ok (.ireturn, 1) := by decide +kernel
theorem d_M_markOf_45 : decode prog_14_method_120_code 45 = .ok (.aload_n 0, 1) := by decide +kernel
theorem d_M_markOf_46 : decode prog_14_method_120_code 46 = .ok (.iload_n 1, 1) := by decide +kernel
theorem d_M_markOf_47 : decode prog_14_method_120_code 47 = .ok (.invokevirtual 394, 3) := by decide +kernel
theorem d_M_markOf_50 : decode prog_14_method_120_code 50 = .ok (.ireturn, 1) := by decide +kernel
theorem d_M_markOf_51 : decode prog_14_method_120_code 51 = .ok (.aload_n 0, 1) := by decide +kernel
theorem d_M_markOf_52 : decode prog_14_method_120_code 52 = .ok (.iload_n 1, 1) := by decide +kernel
theorem d_M_markOf_53 : decode prog_14_method_120_code 53 = .ok (.invokevirtual 336, 3) := by decide +kernel
theorem d_M_markOf_56 : decode prog_14_method_120_code 56 = .ok (.ireturn, 1) := by decide +kernel
theorem d_M_markOf_57 : decode prog_14_method_120_code 57 = .ok (.aload_n 0, 1) := by decide +kernel
theorem d_M_markOf_58 : decode prog_14_method_120_code 58 = .ok (.getfield 110, 3) := by decide +kernel
theorem d_M_markOf_61 : decode prog_14_method_120_code 61 = .ok (.bipush 15, 2) := by decide +kernel
theorem d_M_markOf_63 : decode prog_14_method_120_code 63 = .ok (.iload_n 1, 1) := by decide +kernel
theorem d_M_markOf_64 : decode prog_14_method_120_code 64 = .ok (.iadd, 1) := by decide +kernel
theorem d_M_markOf_65 : decode prog_14_method_120_code 65 = .ok (.iaload, 1) := by decide +kernel
theorem d_M_markOf_66 : decode prog_14_method_120_code 66 = .ok (.ireturn, 1) := by decide +kernel
noncomputable def F_M_markOf : Sm := sSw (vI 2) [(ii 0, sRet (asV Value.int (aI 0 (gR 12 52 (vR 0)) (vI 1)))), (ii 1, sRet (asV Value.int (cI (mV 12 D_M_standsOf) [asV Value.ref (vR 0), asV Value.int (vI 1)]))), (ii 2, sRet (asV Value.int (cI (mV 12 D_M_missedOf) [asV Value.ref (vR 0), asV Value.int (vI 1)]))), (ii 3, sRet (asV Value.int (cI (mV 12 D_M_seesMany) [asV Value.ref (vR 0), asV Value.int (vI 1)])))] (sRet (asV Value.int (aI 0 (gR 12 48 (vR 0)) (o2 (fun x y => x + y) (kI (ii 15)) (vI 1)))))
theorem mf_M_markOf : Mf y_M_markOf prog_14_method_120_code 3 (some .int) 2 := ⟨tw_2025, tw_134, by decide +kernel⟩
noncomputable def D_M_markOf : Dn := runS [1, 1, 1] F_M_markOf
set_option maxRecDepth 100000 in
theorem ok_M_markOf : MOK y_M_markOf prog_14_method_120_code 3 (some .int) 4 0 0 D_M_markOf := MOK.of (by decide) (by decide) (show SO Y_M_markOf [(0, 1), (1, 1), (2, 1)] [(0, 1), (1, 1), (2, 1)] 0 0 (([], 0), ([], 0)) F_M_markOf from
  (s_tab (p1 := 1) (P := [(ii 0, 32), (ii 1, 39), (ii 2, 45), (ii 3, 51)]) (pd := 57) (jc := ([], 0)) (dflt := 56) (lo := 0) (hi := 3) (offs := #[31, 38, 44, 50]) (len := 31) (e_iload_n (k0 := 2) d_M_markOf_0 rfl rfl) d_M_markOf_1 (by decide) (by decide +kernel) ⟨rfl, (s_ret (p1 := 38) (e_iald (p1 := 36) (p2 := 37) (e_gR (k0 := 52) (p1 := 33) cf_12 (e_aload_n (k0 := 0) d_M_markOf_32 rfl rfl) (by decide) tw_1412 d_M_markOf_33) (e_iload_n (k0 := 1) d_M_markOf_36 rfl rfl) d_M_markOf_37) rfl d_M_markOf_38), ⟨rfl, (s_ret (p1 := 44) (e_cI (p1 := 41) (a_cons (ι := Value.ref) (k0 := 1) (p1 := 40) (fun _ => rfl) (e_aload_n (k0 := 0) d_M_markOf_39 rfl rfl) (a_cons (ι := Value.int) (k0 := 1) (p1 := 41) (fun _ => rfl) (e_iload_n (k0 := 1) d_M_markOf_40 rfl rfl) a_nil)) (k_virt ok_M_standsOf mf_M_standsOf ⟨tw_1755, tw_84⟩ rfl tw_1753 d_M_markOf_41 (by decide) (by decide) (by decide))) rfl d_M_markOf_44), ⟨rfl, (s_ret (p1 := 50) (e_cI (p1 := 47) (a_cons (ι := Value.ref) (k0 := 1) (p1 := 46) (fun _ => rfl) (e_aload_n (k0 := 0) d_M_markOf_45 rfl rfl) (a_cons (ι := Value.int) (k0 := 1) (p1 := 47) (fun _ => rfl) (e_iload_n (k0 := 1) d_M_markOf_46 rfl rfl) a_nil)) (k_virt ok_M_missedOf mf_M_missedOf ⟨tw_1782, tw_90⟩ rfl tw_1780 d_M_markOf_47 (by decide) (by decide) (by decide))) rfl d_M_markOf_50), ⟨rfl, (s_ret (p1 := 56) (e_cI (p1 := 53) (a_cons (ι := Value.ref) (k0 := 1) (p1 := 52) (fun _ => rfl) (e_aload_n (k0 := 0) d_M_markOf_51 rfl rfl) (a_cons (ι := Value.int) (k0 := 1) (p1 := 53) (fun _ => rfl) (e_iload_n (k0 := 1) d_M_markOf_52 rfl rfl) a_nil)) (k_virt ok_M_seesMany mf_M_seesMany ⟨tw_1723, tw_77⟩ rfl tw_1721 d_M_markOf_53 (by decide) (by decide) (by decide))) rfl d_M_markOf_56), trivial⟩⟩⟩⟩ (s_ret (p1 := 66) (e_iald (p1 := 61) (p2 := 65) (e_gR (k0 := 48) (p1 := 58) cf_12 (e_aload_n (k0 := 0) d_M_markOf_57 rfl rfl) (by decide) tw_1408 d_M_markOf_58) (e_iadd (p1 := 63) (p2 := 64) (e_bipush d_M_markOf_61 (by decide)) (e_iload_n (k0 := 1) d_M_markOf_63 rfl rfl) d_M_markOf_64) d_M_markOf_65) rfl d_M_markOf_66)))
/-! BlinkerCrossModel.whoBits(I)I -/
abbrev y_M_whoBits : MethodName := ⟨"BlinkerCrossModel", "whoBits", "(I)I"⟩
abbrev Y_M_whoBits : Yt := (prog_14_method_121_code, 6, "BlinkerCrossModel", 5, (some .int), "whoBits")
theorem d_M_whoBits_0 : decode prog_14_method_121_code 0 = .ok (.aload_n 0, 1) := by decide +kernel
theorem d_M_whoBits_1 : decode prog_14_method_121_code 1 = .ok (.invokevirtual 357, 3) := by decide +kernel
theorem d_M_whoBits_4 : decode prog_14_method_121_code 4 = .ok (.iconst 0, 1) := by decide +kernel
theorem d_M_whoBits_5 : decode prog_14_method_121_code 5 = .ok (.istore_n 2, 1) := by decide +kernel
theorem d_M_whoBits_6 : decode prog_14_method_121_code 6 = .ok (.iconst 0, 1) := by decide +kernel
theorem d_M_whoBits_7 : decode prog_14_method_121_code 7 = .ok (.istore_n 3, 1) := by decide +kernel
theorem d_M_whoBits_8 : decode prog_14_method_121_code 8 = .ok (.iload_n 3, 1) := by decide +kernel
theorem d_M_whoBits_9 : decode prog_14_method_121_code 9 = .ok (.aload_n 0, 1) := by decide +kernel
theorem d_M_whoBits_10 : decode prog_14_method_121_code 10 = .ok (.getfield 52, 3) := by decide +kernel
theorem d_M_whoBits_13 : decode prog_14_method_121_code 13 = .ok (.aload_n 0, 1) := by decide +kernel
theorem d_M_whoBits_14 : decode prog_14_method_121_code 14 = .ok (.getfield 242, 3) := by decide +kernel
theorem d_M_whoBits_17 : decode prog_14_method_121_code 17 = .ok (.iaload, 1) := by decide +kernel
theorem d_M_whoBits_18 : decode prog_14_method_121_code 18 = .ok (.if_icmp .ge 78, 3) := by decide +kernel
theorem d_M_whoBits_21 : decode prog_14_method_121_code 21 = .ok (.iconst 1, 1) := by decide +kernel
theorem d_M_whoBits_22 : decode prog_14_method_121_code 22 = .ok (.istore 4, 2) := by decide +kernel
theorem d_M_whoBits_24 : decode prog_14_method_121_code 24 = .ok (.iconst 0, 1) := by decide +kernel
theorem d_M_whoBits_25 : decode prog_14_method_121_code 25 = .ok (.istore 5, 2) := by decide +kernel
theorem d_M_whoBits_27 : decode prog_14_method_121_code 27 = .ok (.iload 5, 2) := by decide +kernel
theorem d_M_whoBits_29 : decode prog_14_method_121_code 29 = .ok (.iload_n 1, 1) := by decide +kernel
theorem d_M_whoBits_30 : decode prog_14_method_121_code 30 = .ok (.if_icmp .ge 49, 3) := by decide +kernel
theorem d_M_whoBits_33 : decode prog_14_method_121_code 33 = .ok (.aload_n 0, 1) := by decide +kernel
theorem d_M_whoBits_34 : decode prog_14_method_121_code 34 = .ok (.iload_n 3, 1) := by decide +kernel
theorem d_M_whoBits_35 : decode prog_14_method_121_code 35 = .ok (.aload_n 0, 1) := by decide +kernel
theorem d_M_whoBits_36 : decode prog_14_method_121_code 36 = .ok (.getfield 146, 3) := by decide +kernel
theorem d_M_whoBits_39 : decode prog_14_method_121_code 39 = .ok (.iload 5, 2) := by decide +kernel
theorem d_M_whoBits_41 : decode prog_14_method_121_code 41 = .ok (.iaload, 1) := by decide +kernel
theorem d_M_whoBits_42 : decode prog_14_method_121_code 42 = .ok (.invokevirtual 504, 3) := by decide +kernel
theorem d_M_whoBits_45 : decode prog_14_method_121_code 45 = .ok (.aload_n 0, 1) := by decide +kernel
theorem d_M_whoBits_46 : decode prog_14_method_121_code 46 = .ok (.getfield 149, 3) := by decide +kernel
theorem d_M_whoBits_49 : decode prog_14_method_121_code 49 = .ok (.iload 5, 2) := by decide +kernel
theorem d_M_whoBits_51 : decode prog_14_method_121_code 51 = .ok (.iaload, 1) := by decide +kernel
theorem d_M_whoBits_52 : decode prog_14_method_121_code 52 = .ok (.if_icmp .lt 7, 3) := by decide +kernel
theorem d_M_whoBits_55 : decode prog_14_method_121_code 55 = .ok (.iconst 1, 1) := by decide +kernel
theorem d_M_whoBits_56 : decode prog_14_method_121_code 56 = .ok (.goto 4, 3) := by decide +kernel
theorem d_M_whoBits_59 : decode prog_14_method_121_code 59 = .ok (.iconst 0, 1) := by decide +kernel
theorem d_M_whoBits_60 : decode prog_14_method_121_code 60 = .ok (.aload_n 0, 1) := by decide +kernel
theorem d_M_whoBits_61 : decode prog_14_method_121_code 61 = .ok (.getfield 152, 3) := by decide +kernel
theorem d_M_whoBits_64 : decode prog_14_method_121_code 64 = .ok (.iload 5, 2) := by decide +kernel
theorem d_M_whoBits_66 : decode prog_14_method_121_code 66 = .ok (.baload, 1) := by decide +kernel
theorem d_M_whoBits_67 : decode prog_14_method_121_code 67 = .ok (.if_icmp .eq 6, 3) := by decide +kernel
theorem d_M_whoBits_70 : decode prog_14_method_121_code 70 = .ok (.iconst 0, 1) := by decide +kernel
theorem d_M_whoBits_71 : decode prog_14_method_121_code 71 = .ok (.istore 4, 2) := by decide +kernel
theorem d_M_whoBits_73 : decode prog_14_method_121_code 73 = .ok (.iinc 5 1, 3) := by decide +kernel
theorem d_M_whoBits_76 : decode prog_14_method_121_code 76 = .ok (.goto (-49), 3) := by decide +kernel
theorem d_M_whoBits_79 : decode prog_14_method_121_code 79 = .ok (.iload 4, 2) := by decide +kernel
theorem d_M_whoBits_81 : decode prog_14_method_121_code 81 = .ok (.ifCond .eq 9, 3) := by decide +kernel
theorem d_M_whoBits_84 : decode prog_14_method_121_code 84 = .ok (.iload_n 2, 1) := by decide +kernel
theorem d_M_whoBits_85 : decode prog_14_method_121_code 85 = .ok (.iconst 1, 1) := by decide +kernel
theorem d_M_whoBits_86 : decode prog_14_method_121_code 86 = .ok (.iload_n 3, 1) := by decide +kernel
theorem d_M_whoBits_87 : decode prog_14_method_121_code 87 = .ok (.ishl, 1) := by decide +kernel
theorem d_M_whoBits_88 : decode prog_14_method_121_code 88 = .ok (.ior, 1) := by decide +kernel
theorem d_M_whoBits_89 : decode prog_14_method_121_code 89 = .ok (.istore_n 2, 1) := by decide +kernel
theorem d_M_whoBits_90 : decode prog_14_method_121_code 90 = .ok (.iinc 3 1, 3) := by decide +kernel
theorem d_M_whoBits_93 : decode prog_14_method_121_code 93 = .ok (.goto (-85), 3) := by decide +kernel
theorem d_M_whoBits_96 : decode prog_14_method_121_code 96 = .ok (.iload_n 2, 1) := by decide +kernel
theorem d_M_whoBits_97 : decode prog_14_method_121_code 97 = .ok (.ireturn, 1) := by decide +kernel
noncomputable def Lc_M_whoBits_1 : Xp Bool := o2 (fun x y => decide (x < y)) (vI 5) (vI 1)
noncomputable def Lb_M_whoBits_1 : Sm := sIf (o2 (fun x y => decide (x ≠ y)) (bX (o2 (fun x y => decide (x ≥ y)) (cI (mV 12 D_M_markOf) [asV Value.ref (vR 0), asV Value.int (vI 3), asV Value.int (aI 0 (gR 12 68 (vR 0)) (vI 5))]) (aI 0 (gR 12 69 (vR 0)) (vI 5)))) (aI 3 (gR 12 70 (vR 0)) (vI 5))) (sSet 4 (asV Value.int (kI (ii 0)))) (sSkip)
noncomputable def Lu_M_whoBits_1 : Sm := sInc 5 (ii 1)
noncomputable def Lc_M_whoBits_2 : Xp Bool := o2 (fun x y => decide (x < y)) (vI 3) (aI 0 (gR 12 25 (vR 0)) (gI 12 18 (vR 0)))
noncomputable def Lb_M_whoBits_2 : Sm := sBlk 4 (sSeq (sDecl (asV Value.int (kI (ii 1)))) (sSeq (sBlk 5 (sSeq (sDecl (asV Value.int (kI (ii 0)))) (sWh (Lc_M_whoBits_1) (Lb_M_whoBits_1) Lu_M_whoBits_1))) (sIf (o1 (fun x => decide (x ≠ 0)) (vI 4)) (sSet 2 (asV Value.int (o2 (fun x y => x ||| y) (vI 2) (o2 (fun (x y : Int32) => x <<< (y &&& 31)) (kI (ii 1)) (vI 3))))) (sSkip))))
noncomputable def Lu_M_whoBits_2 : Sm := sInc 3 (ii 1)
noncomputable def F_M_whoBits : Sm := sSeq (sCall (mV 12 D_M_copies) [asV Value.ref (vR 0)]) (sSeq (sDecl (asV Value.int (kI (ii 0)))) (sSeq (sBlk 3 (sSeq (sDecl (asV Value.int (kI (ii 0)))) (sWh (Lc_M_whoBits_2) (Lb_M_whoBits_2) Lu_M_whoBits_2))) (sRet (asV Value.int (vI 2)))))
theorem mf_M_whoBits : Mf y_M_whoBits prog_14_method_121_code 6 (some .int) 1 := ⟨tw_2021, tw_134, by decide +kernel⟩
noncomputable def D_M_whoBits : Dn := runS [1, 1] F_M_whoBits
theorem ok_M_whoBits : MOK y_M_whoBits prog_14_method_121_code 6 (some .int) 5 0 0 D_M_whoBits := MOK.of (by decide) (by decide) (show SO Y_M_whoBits [(0, 1), (1, 1)] [(0, 1), (1, 1), (2, 1)] 0 98 (([], 0), ([], 0)) F_M_whoBits from
  (s_seq (sl1 := [(0, 1), (1, 1)]) (p1 := 4) (s_call (p1 := 1) (a_cons (ι := Value.ref) (k0 := 1) (p1 := 1) (fun _ => rfl) (e_aload_n (k0 := 0) d_M_whoBits_0 rfl rfl) a_nil) (k_virt ok_M_copies mf_M_copies ⟨tw_1707, tw_73⟩ rfl tw_1705 d_M_whoBits_1 (by decide) (by decide) (by decide))) (s_seq (sl1 := [(0, 1), (1, 1), (2, 1)]) (p1 := 6) (s_decl (p1 := 5) (e_iconst d_M_whoBits_4 (by decide)) (t_istore_n d_M_whoBits_5 rfl (by decide)) rfl) (s_seq (sl1 := [(0, 1), (1, 1), (2, 1)]) (p1 := 96) (s_blk (sl1 := [(0, 1), (1, 1), (2, 1), (3, 1)]) (s_seq (sl1 := [(0, 1), (1, 1), (2, 1), (3, 1)]) (p1 := 8) (s_decl (p1 := 7) (e_iconst d_M_whoBits_6 (by decide)) (t_istore_n d_M_whoBits_7 rfl (by decide)) rfl) (s_for (pt := 21) (pu := 90) (pf := 96) (pg := 0) (c_icmp_geF (p1 := 9) (p2 := 18) (tg := 96) (e_iload_n (k0 := 3) d_M_whoBits_8 rfl rfl) (e_iald (p1 := 13) (p2 := 17) (e_gR (k0 := 25) (p1 := 10) cf_12 (e_aload_n (k0 := 0) d_M_whoBits_9 rfl rfl) (by decide) tw_1385 d_M_whoBits_10) (e_gI (k0 := 18) (p1 := 14) cf_12 (e_aload_n (k0 := 0) d_M_whoBits_13 rfl rfl) (by decide) tw_1378 d_M_whoBits_14) d_M_whoBits_17) d_M_whoBits_18 rfl) (s_blk (sl1 := [(0, 1), (1, 1), (2, 1), (3, 1), (4, 1)]) (s_seq (sl1 := [(0, 1), (1, 1), (2, 1), (3, 1), (4, 1)]) (p1 := 24) (s_decl (p1 := 22) (e_iconst d_M_whoBits_21 (by decide)) (t_istore d_M_whoBits_22 (by decide)) rfl) (s_seq (sl1 := [(0, 1), (1, 1), (2, 1), (3, 1), (4, 1)]) (p1 := 79) (s_blk (sl1 := [(0, 1), (1, 1), (2, 1), (3, 1), (4, 1), (5, 1)]) (s_seq (sl1 := [(0, 1), (1, 1), (2, 1), (3, 1), (4, 1), (5, 1)]) (p1 := 27) (s_decl (p1 := 25) (e_iconst d_M_whoBits_24 (by decide)) (t_istore d_M_whoBits_25 (by decide)) rfl) (s_for (pt := 33) (pu := 73) (pf := 79) (pg := 0) (c_icmp_geF (p1 := 29) (p2 := 30) (tg := 79) (e_iload (k0 := 5) d_M_whoBits_27 rfl) (e_iload_n (k0 := 1) d_M_whoBits_29 rfl rfl) d_M_whoBits_30 rfl) (s_if (pt := 70) (pf := 73) (c_icmp_eqF (p1 := 60) (p2 := 67) (tg := 73) (e_bool (pt := 55) (pf := 59) (c_icmp_ltF (p1 := 45) (p2 := 52) (tg := 59) (e_cI (p1 := 42) (a_cons (ι := Value.ref) (k0 := 1) (p1 := 34) (fun _ => rfl) (e_aload_n (k0 := 0) d_M_whoBits_33 rfl rfl) (a_cons (ι := Value.int) (k0 := 1) (p1 := 35) (fun _ => rfl) (e_iload_n (k0 := 3) d_M_whoBits_34 rfl rfl) (a_cons (ι := Value.int) (k0 := 1) (p1 := 42) (fun _ => rfl) (e_iald (p1 := 39) (p2 := 41) (e_gR (k0 := 68) (p1 := 36) cf_12 (e_aload_n (k0 := 0) d_M_whoBits_35 rfl rfl) (by decide) tw_1428 d_M_whoBits_36) (e_iload (k0 := 5) d_M_whoBits_39 rfl) d_M_whoBits_41) a_nil))) (k_virt ok_M_markOf mf_M_markOf ⟨tw_2024, tw_119⟩ rfl tw_2022 d_M_whoBits_42 (by decide) (by decide) (by decide))) (e_iald (p1 := 49) (p2 := 51) (e_gR (k0 := 69) (p1 := 46) cf_12 (e_aload_n (k0 := 0) d_M_whoBits_45 rfl rfl) (by decide) tw_1429 d_M_whoBits_46) (e_iload (k0 := 5) d_M_whoBits_49 rfl) d_M_whoBits_51) d_M_whoBits_52 rfl) d_M_whoBits_55 d_M_whoBits_56 rfl d_M_whoBits_59 rfl) (e_zald (p1 := 64) (p2 := 66) (e_gR (k0 := 70) (p1 := 61) cf_12 (e_aload_n (k0 := 0) d_M_whoBits_60 rfl rfl) (by decide) tw_1430 d_M_whoBits_61) (e_iload (k0 := 5) d_M_whoBits_64 rfl) d_M_whoBits_66) d_M_whoBits_67 rfl) (s_set (k0 := 4) (p1 := 71) (e_iconst d_M_whoBits_70 (by decide)) (t_istore d_M_whoBits_71 (by decide)) rfl rfl) s_skip) (s_goto (p1 := 76) (s_inc (k0 := 5) d_M_whoBits_73 rfl rfl (Nat.le_of_ble_eq_true rfl) rfl) d_M_whoBits_76 rfl))) rfl) (s_if (pt := 84) (pf := 90) (c_if_eqF (p1 := 81) (tg := 90) (e_iload (k0 := 4) d_M_whoBits_79 rfl) d_M_whoBits_81 rfl) (s_set (k0 := 2) (p1 := 89) (e_ior (p1 := 85) (p2 := 88) (e_iload_n (k0 := 2) d_M_whoBits_84 rfl rfl) (e_ishl (p1 := 86) (p2 := 87) (e_iconst d_M_whoBits_85 (by decide)) (e_iload_n (k0 := 3) d_M_whoBits_86 rfl rfl) d_M_whoBits_87) d_M_whoBits_88) (t_istore_n d_M_whoBits_89 rfl (by decide)) rfl rfl) s_skip))) rfl) (s_goto (p1 := 93) (s_inc (k0 := 3) d_M_whoBits_90 rfl rfl (Nat.le_of_ble_eq_true rfl) rfl) d_M_whoBits_93 rfl))) rfl) (s_ret (p1 := 97) (e_iload_n (k0 := 2) d_M_whoBits_96 rfl rfl) rfl d_M_whoBits_97)))))
/-! BlinkerCrossModel.who(II)I -/
abbrev y_M_who : MethodName := ⟨"BlinkerCrossModel", "who", "(II)I"⟩
abbrev Y_M_who : Yt := (prog_14_method_122_code, 4, "BlinkerCrossModel", 6, (some .int), "who")
theorem d_M_who_0 : decode prog_14_method_122_code 0 = .ok (.iload_n 1, 1) := by decide +kernel
theorem d_M_who_1 : decode prog_14_method_122_code 1 = .ok (.iconst 0, 1) := by decide +kernel
theorem d_M_who_2 : decode prog_14_method_122_code 2 = .ok (.aload_n 0, 1) := by decide +kernel
theorem d_M_who_3 : decode prog_14_method_122_code 3 = .ok (.getfield 263, 3) := by decide +kernel
theorem d_M_who_6 : decode prog_14_method_122_code 6 = .ok (.invokestatic 319, 3) := by decide +kernel
theorem d_M_who_9 : decode prog_14_method_122_code 9 = .ok (.ifCond .eq 12, 3) := by decide +kernel
theorem d_M_who_12 : decode prog_14_method_122_code 12 = .ok (.iload_n 2, 1) := by decide +kernel
theorem d_M_who_13 : decode prog_14_method_122_code 13 = .ok (.iconst 0, 1) := by decide +kernel
theorem d_M_who_14 : decode prog_14_method_122_code 14 = .ok (.iconst 1, 1) := by decide +kernel
theorem d_M_who_15 : decode prog_14_method_122_code 15 = .ok (.invokestatic 319, 3) := by decide +kernel
theorem d_M_who_18 : decode prog_14_method_122_code 18 = .ok (.ifCond .ne 5, 3) := by decide +kernel
theorem d_M_who_21 : decode prog_14_method_122_code 21 = .ok (.iconst (-1), 1) := by decide +kernel
theorem d_M_who_22 : decode prog_14_method_122_code 22 = .ok (.ireturn, 1) := by decide +kernel
theorem d_M_who_23 : decode prog_14_method_122_code 23 = .ok (.aload_n 0, 1) := by decide +kernel
theorem d_M_who_24 : decode prog_14_method_122_code 24 = .ok (.iload_n 1, 1) := by decide +kernel
theorem d_M_who_25 : decode prog_14_method_122_code 25 = .ok (.invokevirtual 507, 3) := by decide +kernel
theorem d_M_who_28 : decode prog_14_method_122_code 28 = .ok (.istore_n 3, 1) := by decide +kernel
theorem d_M_who_29 : decode prog_14_method_122_code 29 = .ok (.iload_n 2, 1) := by decide +kernel
theorem d_M_who_30 : decode prog_14_method_122_code 30 = .ok (.ifCond .ne 10, 3) := by decide +kernel
theorem d_M_who_33 : decode prog_14_method_122_code 33 = .ok (.iload_n 3, 1) := by decide +kernel
theorem d_M_who_34 : decode prog_14_method_122_code 34 = .ok (.invokestatic 510, 3) := by decide +kernel
theorem d_M_who_37 : decode prog_14_method_122_code 37 = .ok (.goto 4, 3) := by decide +kernel
theorem d_M_who_40 : decode prog_14_method_122_code 40 = .ok (.iload_n 3, 1) := by decide +kernel
theorem d_M_who_41 : decode prog_14_method_122_code 41 = .ok (.ireturn, 1) := by decide +kernel
noncomputable def F_M_who : Sm := sSeq (sIf (cOr (cNot (o1 (fun x => decide (x ≠ 0)) (cI (D_M_in) [asV Value.int (vI 1), asV Value.int (kI (ii 0)), asV Value.int (gI 12 67 (vR 0))]))) (cNot (o1 (fun x => decide (x ≠ 0)) (cI (D_M_in) [asV Value.int (vI 2), asV Value.int (kI (ii 0)), asV Value.int (kI (ii 1))])))) (sRet (asV Value.int (kI (ii (-1))))) (sSkip)) (sSeq (sDecl (asV Value.int (cI (mV 12 D_M_whoBits) [asV Value.ref (vR 0), asV Value.int (vI 1)]))) (sRet (asV Value.int (iX (o1 (fun x => decide (x = 0)) (vI 2)) (cI (D_M_bits) [asV Value.int (vI 3)]) (vI 3)))))
theorem mf_M_who : Mf y_M_who prog_14_method_122_code 4 (some .int) 2 := ⟨tw_2017, tw_134, by decide +kernel⟩
noncomputable def D_M_who : Dn := runS [1, 1, 1] F_M_who
theorem ok_M_who : MOK y_M_who prog_14_method_122_code 4 (some .int) 6 0 0 D_M_who := MOK.of (by decide) (by decide) (show SO Y_M_who [(0, 1), (1, 1), (2, 1)] [(0, 1), (1, 1), (2, 1), (3, 1)] 0 42 (([], 0), ([], 0)) F_M_who from
  (s_seq (sl1 := [(0, 1), (1, 1), (2, 1)]) (p1 := 23) (s_if (pt := 21) (pf := 23) (c_or (p1 := 12) (c_not (c_if_eqF (p1 := 9) (tg := 21) (e_cI (p1 := 6) (a_cons (ι := Value.int) (k0 := 1) (p1 := 1) (fun _ => rfl) (e_iload_n (k0 := 1) d_M_who_0 rfl rfl) (a_cons (ι := Value.int) (k0 := 1) (p1 := 2) (fun _ => rfl) (e_iconst d_M_who_1 (by decide)) (a_cons (ι := Value.int) (k0 := 1) (p1 := 6) (fun _ => rfl) (e_gI (k0 := 67) (p1 := 3) cf_12 (e_aload_n (k0 := 0) d_M_who_2 rfl rfl) (by decide) tw_1427 d_M_who_3) a_nil))) (k_stat ok_M_in mf_M_in tw_1703 tw_1702 d_M_who_6 (by decide) (by decide) (by decide))) d_M_who_9 rfl)) (c_not (c_if_neT (p1 := 18) (tg := 23) (e_cI (p1 := 15) (a_cons (ι := Value.int) (k0 := 1) (p1 := 13) (fun _ => rfl) (e_iload_n (k0 := 2) d_M_who_12 rfl rfl) (a_cons (ι := Value.int) (k0 := 1) (p1 := 14) (fun _ => rfl) (e_iconst d_M_who_13 (by decide)) (a_cons (ι := Value.int) (k0 := 1) (p1 := 15) (fun _ => rfl) (e_iconst d_M_who_14 (by decide)) a_nil))) (k_stat ok_M_in mf_M_in tw_1703 tw_1702 d_M_who_15 (by decide) (by decide) (by decide))) d_M_who_18 rfl))) (s_ret (p1 := 22) (e_iconst d_M_who_21 (by decide)) rfl d_M_who_22) s_skip) (s_seq (sl1 := [(0, 1), (1, 1), (2, 1), (3, 1)]) (p1 := 29) (s_decl (p1 := 28) (e_cI (p1 := 25) (a_cons (ι := Value.ref) (k0 := 1) (p1 := 24) (fun _ => rfl) (e_aload_n (k0 := 0) d_M_who_23 rfl rfl) (a_cons (ι := Value.int) (k0 := 1) (p1 := 25) (fun _ => rfl) (e_iload_n (k0 := 1) d_M_who_24 rfl rfl) a_nil)) (k_virt ok_M_whoBits mf_M_whoBits ⟨tw_2020, tw_118⟩ rfl tw_2018 d_M_who_25 (by decide) (by decide) (by decide))) (t_istore_n d_M_who_28 rfl (by decide)) rfl) (s_ret (p1 := 41) (e_ite (pt := 33) (p1 := 37) (pf := 40) (c_if_neF (p1 := 30) (tg := 40) (e_iload_n (k0 := 2) d_M_who_29 rfl rfl) d_M_who_30 rfl) (e_cI (p1 := 34) (a_cons (ι := Value.int) (k0 := 1) (p1 := 34) (fun _ => rfl) (e_iload_n (k0 := 3) d_M_who_33 rfl rfl) a_nil) (k_stat ok_M_bits mf_M_bits tw_2027 tw_2026 d_M_who_34 (by decide) (by decide) (by decide))) d_M_who_37 rfl (e_iload_n (k0 := 3) d_M_who_40 rfl rfl)) rfl d_M_who_41))))
/-! BlinkerCrossModel.look(II)I -/
abbrev y_M_look : MethodName := ⟨"BlinkerCrossModel", "look", "(II)I"⟩
abbrev Y_M_look : Yt := (prog_14_method_123_code, 10, "BlinkerCrossModel", 6, (some .int), "look")
theorem d_M_look_0 : decode prog_14_method_123_code 0 = .ok (.iload_n 1, 1) := by decide +kernel
theorem d_M_look_1 : decode prog_14_method_123_code 1 = .ok (.iconst 0, 1) := by decide +kernel
theorem d_M_look_2 : decode prog_14_method_123_code 2 = .ok (.aload_n 0, 1) := by decide +kernel
theorem d_M_look_3 : decode prog_14_method_123_code 3 = .ok (.getfield 263, 3) := by decide +kernel
theorem d_M_look_6 : decode prog_14_method_123_code 6 = .ok (.invokestatic 319, 3) := by decide +kernel
theorem d_M_look_9 : decode prog_14_method_123_code 9 = .ok (.ifCond .eq 10, 3) := by decide +kernel
theorem d_M_look_12 : decode prog_14_method_123_code 12 = .ok (.iload_n 2, 1) := by decide +kernel
theorem d_M_look_13 : decode prog_14_method_123_code 13 = .ok (.invokestatic 501, 3) := by decide +kernel
theorem d_M_look_16 : decode prog_14_method_123_code 16 = .ok (.ifCond .ne 5, 3) := by decide +kernel
theorem d_M_look_19 : decode prog_14_method_123_code 19 = .ok (.iconst (-1), 1) := by decide +kernel
theorem d_M_look_20 : decode prog_14_method_123_code 20 = .ok (.ireturn, 1) := by decide +kernel
theorem d_M_look_21 : decode prog_14_method_123_code 21 = .ok (.aload_n 0, 1) := by decide +kernel
theorem d_M_look_22 : decode prog_14_method_123_code 22 = .ok (.iload_n 1, 1) := by decide +kernel
theorem d_M_look_23 : decode prog_14_method_123_code 23 = .ok (.invokevirtual 507, 3) := by decide +kernel
theorem d_M_look_26 : decode prog_14_method_123_code 26 = .ok (.istore_n 3, 1) := by decide +kernel
theorem d_M_look_27 : decode prog_14_method_123_code 27 = .ok (.iload_n 3, 1) := by decide +kernel
theorem d_M_look_28 : decode prog_14_method_123_code 28 = .ok (.invokestatic 510, 3) := by decide +kernel
theorem d_M_look_31 : decode prog_14_method_123_code 31 = .ok (.istore 4, 2) := by decide +kernel
theorem d_M_look_33 : decode prog_14_method_123_code 33 = .ok (.bipush (-2), 2) := by decide +kernel
theorem d_M_look_35 : decode prog_14_method_123_code 35 = .ok (.istore 5, 2) := by decide +kernel
theorem d_M_look_37 : decode prog_14_method_123_code 37 = .ok (.iconst 0, 1) := by decide +kernel
theorem d_M_look_38 : decode prog_14_method_123_code 38 = .ok (.istore 6, 2) := by decide +kernel
theorem d_M_look_40 : decode prog_14_method_123_code 40 = .ok (.iconst 0, 1) := by decide +kernel
theorem d_M_look_41 : decode prog_14_method_123_code 41 = .ok (.istore 7, 2) := by decide +kernel
theorem d_M_look_43 : decode prog_14_method_123_code 43 = .ok (.iload 7, 2) := by decide +kernel
theorem d_M_look_45 : decode prog_14_method_123_code 45 = .ok (.iconst 5, 1) := by decide +kernel
theorem d_M_look_46 : decode prog_14_method_123_code 46 = .ok (.if_icmp .ge 110, 3) := by decide +kernel
theorem d_M_look_49 : decode prog_14_method_123_code 49 = .ok (.iload 4, 2) := by decide +kernel
theorem d_M_look_51 : decode prog_14_method_123_code 51 = .ok (.ifCond .le 105, 3) := by decide +kernel
theorem d_M_look_54 : decode prog_14_method_123_code 54 = .ok (.iconst 0, 1) := by decide +kernel
theorem d_M_look_55 : decode prog_14_method_123_code 55 = .ok (.istore 8, 2) := by decide +kernel
theorem d_M_look_57 : decode prog_14_method_123_code 57 = .ok (.iconst 0, 1) := by decide +kernel
theorem d_M_look_58 : decode prog_14_method_123_code 58 = .ok (.istore 9, 2) := by decide +kernel
theorem d_M_look_60 : decode prog_14_method_123_code 60 = .ok (.iload 9, 2) := by decide +kernel
theorem d_M_look_62 : decode prog_14_method_123_code 62 = .ok (.aload_n 0, 1) := by decide +kernel
theorem d_M_look_63 : decode prog_14_method_123_code 63 = .ok (.getfield 52, 3) := by decide +kernel
theorem d_M_look_66 : decode prog_14_method_123_code 66 = .ok (.aload_n 0, 1) := by decide +kernel
theorem d_M_look_67 : decode prog_14_method_123_code 67 = .ok (.getfield 242, 3) := by decide +kernel
theorem d_M_look_70 : decode prog_14_method_123_code 70 = .ok (.iaload, 1) := by decide +kernel
theorem d_M_look_71 : decode prog_14_method_123_code 71 = .ok (.if_icmp .ge 34, 3) := by decide +kernel
theorem d_M_look_74 : decode prog_14_method_123_code 74 = .ok (.iload_n 3, 1) := by decide +kernel
theorem d_M_look_75 : decode prog_14_method_123_code 75 = .ok (.iload 9, 2) := by decide +kernel
theorem d_M_look_77 : decode prog_14_method_123_code 77 = .ok (.ishr, 1) := by decide +kernel
theorem d_M_look_78 : decode prog_14_method_123_code 78 = .ok (.iconst 1, 1) := by decide +kernel
theorem d_M_look_79 : decode prog_14_method_123_code 79 = .ok (.iand, 1) := by decide +kernel
theorem d_M_look_80 : decode prog_14_method_123_code 80 = .ok (.iconst 1, 1) := by decide +kernel
theorem d_M_look_81 : decode prog_14_method_123_code 81 = .ok (.if_icmp .ne 18, 3) := by decide +kernel
theorem d_M_look_84 : decode prog_14_method_123_code 84 = .ok (.aload_n 0, 1) := by decide +kernel
theorem d_M_look_85 : decode prog_14_method_123_code 85 = .ok (.iload 9, 2) := by decide +kernel
theorem d_M_look_87 : decode prog_14_method_123_code 87 = .ok (.iload 7, 2) := by decide +kernel
theorem d_M_look_89 : decode prog_14_method_123_code 89 = .ok (.invokevirtual 504, 3) := by decide +kernel
theorem d_M_look_92 : decode prog_14_method_123_code 92 = .ok (.iload_n 2, 1) := by decide +kernel
theorem d_M_look_93 : decode prog_14_method_123_code 93 = .ok (.if_icmp .lt 6, 3) := by decide +kernel
theorem d_M_look_96 : decode prog_14_method_123_code 96 = .ok (.iinc 8 1, 3) := by decide +kernel
theorem d_M_look_99 : decode prog_14_method_123_code 99 = .ok (.iinc 9 1, 3) := by decide +kernel
theorem d_M_look_102 : decode prog_14_method_123_code 102 = .ok (.goto (-42), 3) := by decide +kernel
theorem d_M_look_105 : decode prog_14_method_123_code 105 = .ok (.iload 8, 2) := by decide +kernel
theorem d_M_look_107 : decode prog_14_method_123_code 107 = .ok (.iload 4, 2) := by decide +kernel
theorem d_M_look_109 : decode prog_14_method_123_code 109 = .ok (.iload 8, 2) := by decide +kernel
theorem d_M_look_111 : decode prog_14_method_123_code 111 = .ok (.isub, 1) := by decide +kernel
theorem d_M_look_112 : decode prog_14_method_123_code 112 = .ok (.if_icmp .le 8, 3) := by decide +kernel
theorem d_M_look_115 : decode prog_14_method_123_code 115 = .ok (.iload 8, 2) := by decide +kernel
theorem d_M_look_117 : decode prog_14_method_123_code 117 = .ok (.goto 8, 3) := by decide +kernel
theorem d_M_look_120 : decode prog_14_method_123_code 120 = .ok (.iload 4, 2) := by decide +kernel
theorem d_M_look_122 : decode prog_14_method_123_code 122 = .ok (.iload 8, 2) := by decide +kernel
theorem d_M_look_124 : decode prog_14_method_123_code 124 = .ok (.isub, 1) := by decide +kernel
theorem d_M_look_125 : decode prog_14_method_123_code 125 = .ok (.istore 9, 2) := by decide +kernel
theorem d_M_look_127 : decode prog_14_method_123_code 127 = .ok (.iload 5, 2) := by decide +kernel
theorem d_M_look_129 : decode prog_14_method_123_code 129 = .ok (.ifCond .lt 13, 3) := by decide +kernel
theorem d_M_look_132 : decode prog_14_method_123_code 132 = .ok (.iload 9, 2) := by decide +kernel
theorem d_M_look_134 : decode prog_14_method_123_code 134 = .ok (.iload 6, 2) := by decide +kernel
theorem d_M_look_136 : decode prog_14_method_123_code 136 = .ok (.if_icmp .lt 6, 3) := by decide +kernel
theorem d_M_look_139 : decode prog_14_method_123_code 139 = .ok (.goto 11, 3) := by decide +kernel
theorem d_M_look_142 : decode prog_14_method_123_code 142 = .ok (.iload 7, 2) := by decide +kernel
theorem d_M_look_144 : decode prog_14_method_123_code 144 = .ok (.istore 5, 2) := by decide +kernel
theorem d_M_look_146 : decode prog_14_method_123_code 146 = .ok (.iload 9, 2) := by decide +kernel
theorem d_M_look_148 : decode prog_14_method_123_code 148 = .ok (.istore 6, 2) := by decide +kernel
theorem d_M_look_150 : decode prog_14_method_123_code 150 = .ok (.iinc 7 1, 3) := by decide +kernel
theorem d_M_look_153 : decode prog_14_method_123_code 153 = .ok (.goto (-110), 3) := by decide +kernel
theorem d_M_look_156 : decode prog_14_method_123_code 156 = .ok (.iload 5, 2) := by decide +kernel
theorem d_M_look_158 : decode prog_14_method_123_code 158 = .ok (.ireturn, 1) := by decide +kernel
noncomputable def Lc_M_look_1 : Xp Bool := o2 (fun x y => decide (x < y)) (vI 9) (aI 0 (gR 12 25 (vR 0)) (gI 12 18 (vR 0)))
noncomputable def Lb_M_look_1 : Sm := sIf (cAnd (o2 (fun x y => decide (x = y)) (o2 (fun x y => x &&& y) (o2 (fun (x y : Int32) => x >>> (y &&& 31)) (vI 3) (vI 9)) (kI (ii 1))) (kI (ii 1))) (o2 (fun x y => decide (x ≥ y)) (cI (mV 12 D_M_markOf) [asV Value.ref (vR 0), asV Value.int (vI 9), asV Value.int (vI 7)]) (vI 2))) (sInc 8 (ii 1)) (sSkip)
noncomputable def Lu_M_look_1 : Sm := sInc 9 (ii 1)
noncomputable def Lc_M_look_2 : Xp Bool := cAnd (o2 (fun x y => decide (x < y)) (vI 7) (kI (ii 5))) (o1 (fun x => decide (x > 0)) (vI 4))
noncomputable def Lb_M_look_2 : Sm := sBlk 8 (sSeq (sDecl (asV Value.int (kI (ii 0)))) (sSeq (sBlk 9 (sSeq (sDecl (asV Value.int (kI (ii 0)))) (sWh (Lc_M_look_1) (Lb_M_look_1) Lu_M_look_1))) (sSeq (sDecl (asV Value.int (iX (o2 (fun x y => decide (x > y)) (vI 8) (o2 (fun x y => x - y) (vI 4) (vI 8))) (vI 8) (o2 (fun x y => x - y) (vI 4) (vI 8))))) (sSeq (sIf (cAnd (o1 (fun x => decide (x ≥ 0)) (vI 5)) (o2 (fun x y => decide (x ≥ y)) (vI 9) (vI 6))) (sCnt 8) (sSkip)) (sSeq (sSet 5 (asV Value.int (vI 7))) (sSet 6 (asV Value.int (vI 9))))))))
noncomputable def Lu_M_look_2 : Sm := sInc 7 (ii 1)
noncomputable def F_M_look : Sm := sSeq (sIf (cOr (cNot (o1 (fun x => decide (x ≠ 0)) (cI (D_M_in) [asV Value.int (vI 1), asV Value.int (kI (ii 0)), asV Value.int (gI 12 67 (vR 0))]))) (cNot (o1 (fun x => decide (x ≠ 0)) (cI (D_M_isMark) [asV Value.int (vI 2)])))) (sRet (asV Value.int (kI (ii (-1))))) (sSkip)) (sSeq (sDecl (asV Value.int (cI (mV 12 D_M_whoBits) [asV Value.ref (vR 0), asV Value.int (vI 1)]))) (sSeq (sDecl (asV Value.int (cI (D_M_bits) [asV Value.int (vI 3)]))) (sSeq (sDecl (asV Value.int (kI (ii (-2))))) (sSeq (sDecl (asV Value.int (kI (ii 0)))) (sSeq (sBlk 7 (sSeq (sDecl (asV Value.int (kI (ii 0)))) (sWh (Lc_M_look_2) (Lb_M_look_2) Lu_M_look_2))) (sRet (asV Value.int (vI 5))))))))
theorem mf_M_look : Mf y_M_look prog_14_method_123_code 10 (some .int) 2 := ⟨tw_2032, tw_134, by decide +kernel⟩
noncomputable def D_M_look : Dn := runS [1, 1, 1] F_M_look
theorem ok_M_look : MOK y_M_look prog_14_method_123_code 10 (some .int) 6 0 0 D_M_look := MOK.of (by decide) (by decide) (show SO Y_M_look [(0, 1), (1, 1), (2, 1)] [(0, 1), (1, 1), (2, 1), (3, 1), (4, 1), (5, 1), (6, 1)] 0 159 (([], 0), ([], 0)) F_M_look from
  (s_seq (sl1 := [(0, 1), (1, 1), (2, 1)]) (p1 := 21) (s_if (pt := 19) (pf := 21) (c_or (p1 := 12) (c_not (c_if_eqF (p1 := 9) (tg := 19) (e_cI (p1 := 6) (a_cons (ι := Value.int) (k0 := 1) (p1 := 1) (fun _ => rfl) (e_iload_n (k0 := 1) d_M_look_0 rfl rfl) (a_cons (ι := Value.int) (k0 := 1) (p1 := 2) (fun _ => rfl) (e_iconst d_M_look_1 (by decide)) (a_cons (ι := Value.int) (k0 := 1) (p1 := 6) (fun _ => rfl) (e_gI (k0 := 67) (p1 := 3) cf_12 (e_aload_n (k0 := 0) d_M_look_2 rfl rfl) (by decide) tw_1427 d_M_look_3) a_nil))) (k_stat ok_M_in mf_M_in tw_1703 tw_1702 d_M_look_6 (by decide) (by decide) (by decide))) d_M_look_9 rfl)) (c_not (c_if_neT (p1 := 16) (tg := 21) (e_cI (p1 := 13) (a_cons (ι := Value.int) (k0 := 1) (p1 := 13) (fun _ => rfl) (e_iload_n (k0 := 2) d_M_look_12 rfl rfl) a_nil) (k_stat ok_M_isMark mf_M_isMark tw_2008 tw_2007 d_M_look_13 (by decide) (by decide) (by decide))) d_M_look_16 rfl))) (s_ret (p1 := 20) (e_iconst d_M_look_19 (by decide)) rfl d_M_look_20) s_skip) (s_seq (sl1 := [(0, 1), (1, 1), (2, 1), (3, 1)]) (p1 := 27) (s_decl (p1 := 26) (e_cI (p1 := 23) (a_cons (ι := Value.ref) (k0 := 1) (p1 := 22) (fun _ => rfl) (e_aload_n (k0 := 0) d_M_look_21 rfl rfl) (a_cons (ι := Value.int) (k0 := 1) (p1 := 23) (fun _ => rfl) (e_iload_n (k0 := 1) d_M_look_22 rfl rfl) a_nil)) (k_virt ok_M_whoBits mf_M_whoBits ⟨tw_2020, tw_118⟩ rfl tw_2018 d_M_look_23 (by decide) (by decide) (by decide))) (t_istore_n d_M_look_26 rfl (by decide)) rfl) (s_seq (sl1 := [(0, 1), (1, 1), (2, 1), (3, 1), (4, 1)]) (p1 := 33) (s_decl (p1 := 31) (e_cI (p1 := 28) (a_cons (ι := Value.int) (k0 := 1) (p1 := 28) (fun _ => rfl) (e_iload_n (k0 := 3) d_M_look_27 rfl rfl) a_nil) (k_stat ok_M_bits mf_M_bits tw_2027 tw_2026 d_M_look_28 (by decide) (by decide) (by decide))) (t_istore d_M_look_31 (by decide)) rfl) (s_seq (sl1 := [(0, 1), (1, 1), (2, 1), (3, 1), (4, 1), (5, 1)]) (p1 := 37) (s_decl (p1 := 35) (e_bipush d_M_look_33 (by decide)) (t_istore d_M_look_35 (by decide)) rfl) (s_seq (sl1 := [(0, 1), (1, 1), (2, 1), (3, 1), (4, 1), (5, 1), (6, 1)]) (p1 := 40) (s_decl (p1 := 38) (e_iconst d_M_look_37 (by decide)) (t_istore d_M_look_38 (by decide)) rfl) (s_seq (sl1 := [(0, 1), (1, 1), (2, 1), (3, 1), (4, 1), (5, 1), (6, 1)]) (p1 := 156) (s_blk (sl1 := [(0, 1), (1, 1), (2, 1), (3, 1), (4, 1), (5, 1), (6, 1), (7, 1)]) (s_seq (sl1 := [(0, 1), (1, 1), (2, 1), (3, 1), (4, 1), (5, 1), (6, 1), (7, 1)]) (p1 := 43) (s_decl (p1 := 41) (e_iconst d_M_look_40 (by decide)) (t_istore d_M_look_41 (by decide)) rfl) (s_for (pt := 54) (pu := 150) (pf := 156) (pg := 0) (c_and (p1 := 49) (c_icmp_geF (p1 := 45) (p2 := 46) (tg := 156) (e_iload (k0 := 7) d_M_look_43 rfl) (e_iconst d_M_look_45 (by decide)) d_M_look_46 rfl) (c_if_leF (p1 := 51) (tg := 156) (e_iload (k0 := 4) d_M_look_49 rfl) d_M_look_51 rfl)) (s_blk (sl1 := [(0, 1), (1, 1), (2, 1), (3, 1), (4, 1), (5, 1), (6, 1), (7, 1), (8, 1), (9, 1)]) (s_seq (sl1 := [(0, 1), (1, 1), (2, 1), (3, 1), (4, 1), (5, 1), (6, 1), (7, 1), (8, 1)]) (p1 := 57) (s_decl (p1 := 55) (e_iconst d_M_look_54 (by decide)) (t_istore d_M_look_55 (by decide)) rfl) (s_seq (sl1 := [(0, 1), (1, 1), (2, 1), (3, 1), (4, 1), (5, 1), (6, 1), (7, 1), (8, 1)]) (p1 := 105) (s_blk (sl1 := [(0, 1), (1, 1), (2, 1), (3, 1), (4, 1), (5, 1), (6, 1), (7, 1), (8, 1), (9, 1)]) (s_seq (sl1 := [(0, 1), (1, 1), (2, 1), (3, 1), (4, 1), (5, 1), (6, 1), (7, 1), (8, 1), (9, 1)]) (p1 := 60) (s_decl (p1 := 58) (e_iconst d_M_look_57 (by decide)) (t_istore d_M_look_58 (by decide)) rfl) (s_for (pt := 74) (pu := 99) (pf := 105) (pg := 0) (c_icmp_geF (p1 := 62) (p2 := 71) (tg := 105) (e_iload (k0 := 9) d_M_look_60 rfl) (e_iald (p1 := 66) (p2 := 70) (e_gR (k0 := 25) (p1 := 63) cf_12 (e_aload_n (k0 := 0) d_M_look_62 rfl rfl) (by decide) tw_1385 d_M_look_63) (e_gI (k0 := 18) (p1 := 67) cf_12 (e_aload_n (k0 := 0) d_M_look_66 rfl rfl) (by decide) tw_1378 d_M_look_67) d_M_look_70) d_M_look_71 rfl) (s_if (pt := 96) (pf := 99) (c_and (p1 := 84) (c_icmp_neF (p1 := 80) (p2 := 81) (tg := 99) (e_iand (p1 := 78) (p2 := 79) (e_ishr (p1 := 75) (p2 := 77) (e_iload_n (k0 := 3) d_M_look_74 rfl rfl) (e_iload (k0 := 9) d_M_look_75 rfl) d_M_look_77) (e_iconst d_M_look_78 (by decide)) d_M_look_79) (e_iconst d_M_look_80 (by decide)) d_M_look_81 rfl) (c_icmp_ltF (p1 := 92) (p2 := 93) (tg := 99) (e_cI (p1 := 89) (a_cons (ι := Value.ref) (k0 := 1) (p1 := 85) (fun _ => rfl) (e_aload_n (k0 := 0) d_M_look_84 rfl rfl) (a_cons (ι := Value.int) (k0 := 1) (p1 := 87) (fun _ => rfl) (e_iload (k0 := 9) d_M_look_85 rfl) (a_cons (ι := Value.int) (k0 := 1) (p1 := 89) (fun _ => rfl) (e_iload (k0 := 7) d_M_look_87 rfl) a_nil))) (k_virt ok_M_markOf mf_M_markOf ⟨tw_2024, tw_119⟩ rfl tw_2022 d_M_look_89 (by decide) (by decide) (by decide))) (e_iload_n (k0 := 2) d_M_look_92 rfl rfl) d_M_look_93 rfl)) (s_inc (k0 := 8) d_M_look_96 rfl rfl (Nat.le_of_ble_eq_true rfl) rfl) s_skip) (s_goto (p1 := 102) (s_inc (k0 := 9) d_M_look_99 rfl rfl (Nat.le_of_ble_eq_true rfl) rfl) d_M_look_102 rfl))) rfl) (s_seq (sl1 := [(0, 1), (1, 1), (2, 1), (3, 1), (4, 1), (5, 1), (6, 1), (7, 1), (8, 1), (9, 1)]) (p1 := 127) (s_decl (p1 := 125) (e_ite (pt := 115) (p1 := 117) (pf := 120) (c_icmp_leF (p1 := 107) (p2 := 112) (tg := 120) (e_iload (k0 := 8) d_M_look_105 rfl) (e_isub (p1 := 109) (p2 := 111) (e_iload (k0 := 4) d_M_look_107 rfl) (e_iload (k0 := 8) d_M_look_109 rfl) d_M_look_111) d_M_look_112 rfl) (e_iload (k0 := 8) d_M_look_115 rfl) d_M_look_117 rfl (e_isub (p1 := 122) (p2 := 124) (e_iload (k0 := 4) d_M_look_120 rfl) (e_iload (k0 := 8) d_M_look_122 rfl) d_M_look_124)) (t_istore d_M_look_125 (by decide)) rfl) (s_seq (sl1 := [(0, 1), (1, 1), (2, 1), (3, 1), (4, 1), (5, 1), (6, 1), (7, 1), (8, 1), (9, 1)]) (p1 := 142) (s_if (pt := 139) (pf := 142) (c_and (p1 := 132) (c_if_ltF (p1 := 129) (tg := 142) (e_iload (k0 := 5) d_M_look_127 rfl) d_M_look_129 rfl) (c_icmp_ltF (p1 := 134) (p2 := 136) (tg := 142) (e_iload (k0 := 9) d_M_look_132 rfl) (e_iload (k0 := 6) d_M_look_134 rfl) d_M_look_136 rfl)) (s_ahead (p2 := 150) d_M_look_139 rfl (s_cnt rfl)) s_skip) (s_seq (sl1 := [(0, 1), (1, 1), (2, 1), (3, 1), (4, 1), (5, 1), (6, 1), (7, 1), (8, 1), (9, 1)]) (p1 := 146) (s_set (k0 := 5) (p1 := 144) (e_iload (k0 := 7) d_M_look_142 rfl) (t_istore d_M_look_144 (by decide)) rfl rfl) (s_set (k0 := 6) (p1 := 148) (e_iload (k0 := 9) d_M_look_146 rfl) (t_istore d_M_look_148 (by decide)) rfl rfl)))))) rfl) (s_goto (p1 := 153) (s_inc (k0 := 7) d_M_look_150 rfl rfl (Nat.le_of_ble_eq_true rfl) rfl) d_M_look_153 rfl))) rfl) (s_ret (p1 := 158) (e_iload (k0 := 5) d_M_look_156 rfl) rfl d_M_look_158))))))))
/-! BlinkerCrossModel.hold(I)Z -/
abbrev y_M_hold : MethodName := ⟨"BlinkerCrossModel", "hold", "(I)Z"⟩
abbrev Y_M_hold : Yt := (prog_14_method_124_code, 3, "BlinkerCrossModel", 1, (some .boolean), "hold")
theorem d_M_hold_0 : decode prog_14_method_124_code 0 = .ok (.iload_n 1, 1) := by decide +kernel
theorem d_M_hold_1 : decode prog_14_method_124_code 1 = .ok (.iconst 0, 1) := by decide +kernel
theorem d_M_hold_2 : decode prog_14_method_124_code 2 = .ok (.iconst 2, 1) := by decide +kernel
theorem d_M_hold_3 : decode prog_14_method_124_code 3 = .ok (.invokestatic 319, 3) := by decide +kernel
theorem d_M_hold_6 : decode prog_14_method_124_code 6 = .ok (.ifCond .ne 5, 3) := by decide +kernel
theorem d_M_hold_9 : decode prog_14_method_124_code 9 = .ok (.iconst 0, 1) := by decide +kernel
theorem d_M_hold_10 : decode prog_14_method_124_code 10 = .ok (.ireturn, 1) := by decide +kernel
theorem d_M_hold_11 : decode prog_14_method_124_code 11 = .ok (.aload_n 0, 1) := by decide +kernel
theorem d_M_hold_12 : decode prog_14_method_124_code 12 = .ok (.getfield 155, 3) := by decide +kernel
theorem d_M_hold_15 : decode prog_14_method_124_code 15 = .ok (.iload_n 1, 1) := by decide +kernel
theorem d_M_hold_16 : decode prog_14_method_124_code 16 = .ok (.iconst 1, 1) := by decide +kernel
theorem d_M_hold_17 : decode prog_14_method_124_code 17 = .ok (.bastore, 1) := by decide +kernel
theorem d_M_hold_18 : decode prog_14_method_124_code 18 = .ok (.iconst 0, 1) := by decide +kernel
theorem d_M_hold_19 : decode prog_14_method_124_code 19 = .ok (.istore_n 2, 1) := by decide +kernel
theorem d_M_hold_20 : decode prog_14_method_124_code 20 = .ok (.iload_n 2, 1) := by decide +kernel
theorem d_M_hold_21 : decode prog_14_method_124_code 21 = .ok (.bipush 56, 2) := by decide +kernel
theorem d_M_hold_23 : decode prog_14_method_124_code 23 = .ok (.if_icmp .ge 26, 3) := by decide +kernel
theorem d_M_hold_26 : decode prog_14_method_124_code 26 = .ok (.aload_n 0, 1) := by decide +kernel
theorem d_M_hold_27 : decode prog_14_method_124_code 27 = .ok (.getfield 158, 3) := by decide +kernel
theorem d_M_hold_30 : decode prog_14_method_124_code 30 = .ok (.bipush 56, 2) := by decide +kernel
theorem d_M_hold_32 : decode prog_14_method_124_code 32 = .ok (.iload_n 1, 1) := by decide +kernel
theorem d_M_hold_33 : decode prog_14_method_124_code 33 = .ok (.imul, 1) := by decide +kernel
theorem d_M_hold_34 : decode prog_14_method_124_code 34 = .ok (.iload_n 2, 1) := by decide +kernel
theorem d_M_hold_35 : decode prog_14_method_124_code 35 = .ok (.iadd, 1) := by decide +kernel
theorem d_M_hold_36 : decode prog_14_method_124_code 36 = .ok (.aload_n 0, 1) := by decide +kernel
theorem d_M_hold_37 : decode prog_14_method_124_code 37 = .ok (.getfield 107, 3) := by decide +kernel
theorem d_M_hold_40 : decode prog_14_method_124_code 40 = .ok (.iload_n 2, 1) := by decide +kernel
theorem d_M_hold_41 : decode prog_14_method_124_code 41 = .ok (.iaload, 1) := by decide +kernel
theorem d_M_hold_42 : decode prog_14_method_124_code 42 = .ok (.iastore, 1) := by decide +kernel
theorem d_M_hold_43 : decode prog_14_method_124_code 43 = .ok (.iinc 2 1, 3) := by decide +kernel
theorem d_M_hold_46 : decode prog_14_method_124_code 46 = .ok (.goto (-26), 3) := by decide +kernel
theorem d_M_hold_49 : decode prog_14_method_124_code 49 = .ok (.iconst 1, 1) := by decide +kernel
theorem d_M_hold_50 : decode prog_14_method_124_code 50 = .ok (.ireturn, 1) := by decide +kernel
noncomputable def Lc_M_hold_1 : Xp Bool := o2 (fun x y => decide (x < y)) (vI 2) (kI (ii 56))
noncomputable def Lb_M_hold_1 : Sm := sAst 0 (gR 12 72 (vR 0)) (o2 (fun x y => x + y) (o2 (fun x y => x * y) (kI (ii 56)) (vI 1)) (vI 2)) (aI 0 (gR 12 47 (vR 0)) (vI 2))
noncomputable def Lu_M_hold_1 : Sm := sInc 2 (ii 1)
noncomputable def F_M_hold : Sm := sSeq (sIf (cNot (o1 (fun x => decide (x ≠ 0)) (cI (D_M_in) [asV Value.int (vI 1), asV Value.int (kI (ii 0)), asV Value.int (kI (ii 2))]))) (sRetZ (kI (ii 0))) (sSkip)) (sSeq (sAst 3 (gR 12 71 (vR 0)) (vI 1) (kI (ii 1))) (sSeq (sBlk 2 (sSeq (sDecl (asV Value.int (kI (ii 0)))) (sWh (Lc_M_hold_1) (Lb_M_hold_1) Lu_M_hold_1))) (sRetZ (kI (ii 1)))))
theorem mf_M_hold : Mf y_M_hold prog_14_method_124_code 3 (some .boolean) 1 := ⟨tw_2036, tw_134, by decide +kernel⟩
noncomputable def D_M_hold : Dn := runS [1, 1] F_M_hold
theorem ok_M_hold : MOK y_M_hold prog_14_method_124_code 3 (some .boolean) 1 0 0 D_M_hold := MOK.of (by decide) (by decide) (show SO Y_M_hold [(0, 1), (1, 1)] [(0, 1), (1, 1)] 0 51 (([], 0), ([], 0)) F_M_hold from
  (s_seq (sl1 := [(0, 1), (1, 1)]) (p1 := 11) (s_if (pt := 9) (pf := 11) (c_not (c_if_neT (p1 := 6) (tg := 11) (e_cI (p1 := 3) (a_cons (ι := Value.int) (k0 := 1) (p1 := 1) (fun _ => rfl) (e_iload_n (k0 := 1) d_M_hold_0 rfl rfl) (a_cons (ι := Value.int) (k0 := 1) (p1 := 2) (fun _ => rfl) (e_iconst d_M_hold_1 (by decide)) (a_cons (ι := Value.int) (k0 := 1) (p1 := 3) (fun _ => rfl) (e_iconst d_M_hold_2 (by decide)) a_nil))) (k_stat ok_M_in mf_M_in tw_1703 tw_1702 d_M_hold_3 (by decide) (by decide) (by decide))) d_M_hold_6 rfl)) (s_retZ (p1 := 10) (e_iconst d_M_hold_9 (by decide)) rfl d_M_hold_10) s_skip) (s_seq (sl1 := [(0, 1), (1, 1)]) (p1 := 18) (s_ast (p1 := 15) (p2 := 16) (p3 := 17) (e_gR (k0 := 71) (p1 := 12) cf_12 (e_aload_n (k0 := 0) d_M_hold_11 rfl rfl) (by decide) tw_1431 d_M_hold_12) (e_iload_n (k0 := 1) d_M_hold_15 rfl rfl) (e_iconst d_M_hold_16 (by decide)) (as_z d_M_hold_17)) (s_seq (sl1 := [(0, 1), (1, 1)]) (p1 := 49) (s_blk (sl1 := [(0, 1), (1, 1), (2, 1)]) (s_seq (sl1 := [(0, 1), (1, 1), (2, 1)]) (p1 := 20) (s_decl (p1 := 19) (e_iconst d_M_hold_18 (by decide)) (t_istore_n d_M_hold_19 rfl (by decide)) rfl) (s_for (pt := 26) (pu := 43) (pf := 49) (pg := 0) (c_icmp_geF (p1 := 21) (p2 := 23) (tg := 49) (e_iload_n (k0 := 2) d_M_hold_20 rfl rfl) (e_bipush d_M_hold_21 (by decide)) d_M_hold_23 rfl) (s_ast (p1 := 30) (p2 := 36) (p3 := 42) (e_gR (k0 := 72) (p1 := 27) cf_12 (e_aload_n (k0 := 0) d_M_hold_26 rfl rfl) (by decide) tw_1432 d_M_hold_27) (e_iadd (p1 := 34) (p2 := 35) (e_imul (p1 := 32) (p2 := 33) (e_bipush d_M_hold_30 (by decide)) (e_iload_n (k0 := 1) d_M_hold_32 rfl rfl) d_M_hold_33) (e_iload_n (k0 := 2) d_M_hold_34 rfl rfl) d_M_hold_35) (e_iald (p1 := 40) (p2 := 41) (e_gR (k0 := 47) (p1 := 37) cf_12 (e_aload_n (k0 := 0) d_M_hold_36 rfl rfl) (by decide) tw_1407 d_M_hold_37) (e_iload_n (k0 := 2) d_M_hold_40 rfl rfl) d_M_hold_41) (as_i d_M_hold_42)) (s_goto (p1 := 46) (s_inc (k0 := 2) d_M_hold_43 rfl rfl (Nat.le_of_ble_eq_true rfl) rfl) d_M_hold_46 rfl))) rfl) (s_retZ (p1 := 50) (e_iconst d_M_hold_49 (by decide)) rfl d_M_hold_50)))))
/-! BlinkerCrossModel.restore(I)Z -/
abbrev y_M_restore : MethodName := ⟨"BlinkerCrossModel", "restore", "(I)Z"⟩
abbrev Y_M_restore : Yt := (prog_14_method_125_code, 3, "BlinkerCrossModel", 1, (some .boolean), "restore")
theorem d_M_restore_0 : decode prog_14_method_125_code 0 = .ok (.iload_n 1, 1) := by decide +kernel
theorem d_M_restore_1 : decode prog_14_method_125_code 1 = .ok (.iconst 0, 1) := by decide +kernel
theorem d_M_restore_2 : decode prog_14_method_125_code 2 = .ok (.iconst 2, 1) := by decide +kernel
theorem d_M_restore_3 : decode prog_14_method_125_code 3 = .ok (.invokestatic 319, 3) := by decide +kernel
theorem d_M_restore_6 : decode prog_14_method_125_code 6 = .ok (.ifCond .eq 12, 3) := by decide +kernel
theorem d_M_restore_9 : decode prog_14_method_125_code 9 = .ok (.aload_n 0, 1) := by decide +kernel
theorem d_M_restore_10 : decode prog_14_method_125_code 10 = .ok (.getfield 155, 3) := by decide +kernel
theorem d_M_restore_13 : decode prog_14_method_125_code 13 = .ok (.iload_n 1, 1) := by decide +kernel
theorem d_M_restore_14 : decode prog_14_method_125_code 14 = .ok (.baload, 1) := by decide +kernel
theorem d_M_restore_15 : decode prog_14_method_125_code 15 = .ok (.ifCond .ne 5, 3) := by decide +kernel
theorem d_M_restore_18 : decode prog_14_method_125_code 18 = .ok (.iconst 0, 1) := by decide +kernel
theorem d_M_restore_19 : decode prog_14_method_125_code 19 = .ok (.ireturn, 1) := by decide +kernel
theorem d_M_restore_20 : decode prog_14_method_125_code 20 = .ok (.iconst 0, 1) := by decide +kernel
theorem d_M_restore_21 : decode prog_14_method_125_code 21 = .ok (.istore_n 2, 1) := by decide +kernel
theorem d_M_restore_22 : decode prog_14_method_125_code 22 = .ok (.iload_n 2, 1) := by decide +kernel
theorem d_M_restore_23 : decode prog_14_method_125_code 23 = .ok (.bipush 56, 2) := by decide +kernel
theorem d_M_restore_25 : decode prog_14_method_125_code 25 = .ok (.if_icmp .ge 26, 3) := by decide +kernel
theorem d_M_restore_28 : decode prog_14_method_125_code 28 = .ok (.aload_n 0, 1) := by decide +kernel
theorem d_M_restore_29 : decode prog_14_method_125_code 29 = .ok (.getfield 107, 3) := by decide +kernel
theorem d_M_restore_32 : decode prog_14_method_125_code 32 = .ok (.iload_n 2, 1) := by decide +kernel
theorem d_M_restore_33 : decode prog_14_method_125_code 33 = .ok (.aload_n 0, 1) := by decide +kernel
theorem d_M_restore_34 : decode prog_14_method_125_code 34 = .ok (.getfield 158, 3) := by decide +kernel
theorem d_M_restore_37 : decode prog_14_method_125_code 37 = .ok (.bipush 56, 2) := by decide +kernel
theorem d_M_restore_39 : decode prog_14_method_125_code 39 = .ok (.iload_n 1, 1) := by decide +kernel
theorem d_M_restore_40 : decode prog_14_method_125_code 40 = .ok (.imul, 1) := by decide +kernel
theorem d_M_restore_41 : decode prog_14_method_125_code 41 = .ok (.iload_n 2, 1) := by decide +kernel
theorem d_M_restore_42 : decode prog_14_method_125_code 42 = .ok (.iadd, 1) := by decide +kernel
theorem d_M_restore_43 : decode prog_14_method_125_code 43 = .ok (.iaload, 1) := by decide +kernel
theorem d_M_restore_44 : decode prog_14_method_125_code 44 = .ok (.iastore, 1) := by decide +kernel
theorem d_M_restore_45 : decode prog_14_method_125_code 45 = .ok (.iinc 2 1, 3) := by decide +kernel
theorem d_M_restore_48 : decode prog_14_method_125_code 48 = .ok (.goto (-26), 3) := by decide +kernel
theorem d_M_restore_51 : decode prog_14_method_125_code 51 = .ok (.aload_n 0, 1) := by decide +kernel
theorem d_M_restore_52 : decode prog_14_method_125_code 52 = .ok (.iconst 0, 1) := by decide +kernel
theorem d_M_restore_53 : decode prog_14_method_125_code 53 = .ok (.putfield 260, 3) := by decide +kernel
theorem d_M_restore_56 : decode prog_14_method_125_code 56 = .ok (.iconst 1, 1) := by decide +kernel
theorem d_M_restore_57 : decode prog_14_method_125_code 57 = .ok (.ireturn, 1) := by decide +kernel
noncomputable def Lc_M_restore_1 : Xp Bool := o2 (fun x y => decide (x < y)) (vI 2) (kI (ii 56))
noncomputable def Lb_M_restore_1 : Sm := sAst 0 (gR 12 47 (vR 0)) (vI 2) (aI 0 (gR 12 72 (vR 0)) (o2 (fun x y => x + y) (o2 (fun x y => x * y) (kI (ii 56)) (vI 1)) (vI 2)))
noncomputable def Lu_M_restore_1 : Sm := sInc 2 (ii 1)
noncomputable def F_M_restore : Sm := sSeq (sIf (cOr (cNot (o1 (fun x => decide (x ≠ 0)) (cI (D_M_in) [asV Value.int (vI 1), asV Value.int (kI (ii 0)), asV Value.int (kI (ii 2))]))) (cNot (o1 (fun x => decide (x ≠ 0)) (aI 3 (gR 12 71 (vR 0)) (vI 1))))) (sRetZ (kI (ii 0))) (sSkip)) (sSeq (sBlk 2 (sSeq (sDecl (asV Value.int (kI (ii 0)))) (sWh (Lc_M_restore_1) (Lb_M_restore_1) Lu_M_restore_1))) (sSeq (sPut 12 57 (vR 0) (asV Value.int (kI (ii 0)))) (sRetZ (kI (ii 1)))))
theorem mf_M_restore : Mf y_M_restore prog_14_method_125_code 3 (some .boolean) 1 := ⟨tw_2040, tw_134, by decide +kernel⟩
noncomputable def D_M_restore : Dn := runS [1, 1] F_M_restore
theorem ok_M_restore : MOK y_M_restore prog_14_method_125_code 3 (some .boolean) 1 0 0 D_M_restore := MOK.of (by decide) (by decide) (show SO Y_M_restore [(0, 1), (1, 1)] [(0, 1), (1, 1)] 0 58 (([], 0), ([], 0)) F_M_restore from
  (s_seq (sl1 := [(0, 1), (1, 1)]) (p1 := 20) (s_if (pt := 18) (pf := 20) (c_or (p1 := 9) (c_not (c_if_eqF (p1 := 6) (tg := 18) (e_cI (p1 := 3) (a_cons (ι := Value.int) (k0 := 1) (p1 := 1) (fun _ => rfl) (e_iload_n (k0 := 1) d_M_restore_0 rfl rfl) (a_cons (ι := Value.int) (k0 := 1) (p1 := 2) (fun _ => rfl) (e_iconst d_M_restore_1 (by decide)) (a_cons (ι := Value.int) (k0 := 1) (p1 := 3) (fun _ => rfl) (e_iconst d_M_restore_2 (by decide)) a_nil))) (k_stat ok_M_in mf_M_in tw_1703 tw_1702 d_M_restore_3 (by decide) (by decide) (by decide))) d_M_restore_6 rfl)) (c_not (c_if_neT (p1 := 15) (tg := 20) (e_zald (p1 := 13) (p2 := 14) (e_gR (k0 := 71) (p1 := 10) cf_12 (e_aload_n (k0 := 0) d_M_restore_9 rfl rfl) (by decide) tw_1431 d_M_restore_10) (e_iload_n (k0 := 1) d_M_restore_13 rfl rfl) d_M_restore_14) d_M_restore_15 rfl))) (s_retZ (p1 := 19) (e_iconst d_M_restore_18 (by decide)) rfl d_M_restore_19) s_skip) (s_seq (sl1 := [(0, 1), (1, 1)]) (p1 := 51) (s_blk (sl1 := [(0, 1), (1, 1), (2, 1)]) (s_seq (sl1 := [(0, 1), (1, 1), (2, 1)]) (p1 := 22) (s_decl (p1 := 21) (e_iconst d_M_restore_20 (by decide)) (t_istore_n d_M_restore_21 rfl (by decide)) rfl) (s_for (pt := 28) (pu := 45) (pf := 51) (pg := 0) (c_icmp_geF (p1 := 23) (p2 := 25) (tg := 51) (e_iload_n (k0 := 2) d_M_restore_22 rfl rfl) (e_bipush d_M_restore_23 (by decide)) d_M_restore_25 rfl) (s_ast (p1 := 32) (p2 := 33) (p3 := 44) (e_gR (k0 := 47) (p1 := 29) cf_12 (e_aload_n (k0 := 0) d_M_restore_28 rfl rfl) (by decide) tw_1407 d_M_restore_29) (e_iload_n (k0 := 2) d_M_restore_32 rfl rfl) (e_iald (p1 := 37) (p2 := 43) (e_gR (k0 := 72) (p1 := 34) cf_12 (e_aload_n (k0 := 0) d_M_restore_33 rfl rfl) (by decide) tw_1432 d_M_restore_34) (e_iadd (p1 := 41) (p2 := 42) (e_imul (p1 := 39) (p2 := 40) (e_bipush d_M_restore_37 (by decide)) (e_iload_n (k0 := 1) d_M_restore_39 rfl rfl) d_M_restore_40) (e_iload_n (k0 := 2) d_M_restore_41 rfl rfl) d_M_restore_42) d_M_restore_43) (as_i d_M_restore_44)) (s_goto (p1 := 48) (s_inc (k0 := 2) d_M_restore_45 rfl rfl (Nat.le_of_ble_eq_true rfl) rfl) d_M_restore_48 rfl))) rfl) (s_seq (sl1 := [(0, 1), (1, 1)]) (p1 := 56) (s_put (k0 := 57) (p1 := 52) (p2 := 53) cf_12 (e_aload_n (k0 := 0) d_M_restore_51 rfl rfl) (e_iconst d_M_restore_52 (by decide)) (by decide) fk_i tw_1417 (Or.inl rfl) d_M_restore_53) (s_retZ (p1 := 57) (e_iconst d_M_restore_56 (by decide)) rfl d_M_restore_57)))))
/-! BlinkerCrossModel.sumNow(I)I -/
abbrev y_M_sumNow : MethodName := ⟨"BlinkerCrossModel", "sumNow", "(I)I"⟩
abbrev Y_M_sumNow : Yt := (prog_14_method_126_code, 4, "BlinkerCrossModel", 0, (some .int), "sumNow")
theorem d_M_sumNow_0 : decode prog_14_method_126_code 0 = .ok (.iconst 0, 1) := by decide +kernel
theorem d_M_sumNow_1 : decode prog_14_method_126_code 1 = .ok (.istore_n 2, 1) := by decide +kernel
theorem d_M_sumNow_2 : decode prog_14_method_126_code 2 = .ok (.iload_n 1, 1) := by decide +kernel
theorem d_M_sumNow_3 : decode prog_14_method_126_code 3 = .ok (.istore_n 3, 1) := by decide +kernel
theorem d_M_sumNow_4 : decode prog_14_method_126_code 4 = .ok (.iload_n 3, 1) := by decide +kernel
theorem d_M_sumNow_5 : decode prog_14_method_126_code 5 = .ok (.iload_n 1, 1) := by decide +kernel
theorem d_M_sumNow_6 : decode prog_14_method_126_code 6 = .ok (.iconst 5, 1) := by decide +kernel
theorem d_M_sumNow_7 : decode prog_14_method_126_code 7 = .ok (.iadd, 1) := by decide +kernel
theorem d_M_sumNow_8 : decode prog_14_method_126_code 8 = .ok (.if_icmp .ge 18, 3) := by decide +kernel
theorem d_M_sumNow_11 : decode prog_14_method_126_code 11 = .ok (.iload_n 2, 1) := by decide +kernel
theorem d_M_sumNow_12 : decode prog_14_method_126_code 12 = .ok (.aload_n 0, 1) := by decide +kernel
theorem d_M_sumNow_13 : decode prog_14_method_126_code 13 = .ok (.getfield 107, 3) := by decide +kernel
theorem d_M_sumNow_16 : decode prog_14_method_126_code 16 = .ok (.iload_n 3, 1) := by decide +kernel
theorem d_M_sumNow_17 : decode prog_14_method_126_code 17 = .ok (.iaload, 1) := by decide +kernel
theorem d_M_sumNow_18 : decode prog_14_method_126_code 18 = .ok (.iadd, 1) := by decide +kernel
theorem d_M_sumNow_19 : decode prog_14_method_126_code 19 = .ok (.istore_n 2, 1) := by decide +kernel
theorem d_M_sumNow_20 : decode prog_14_method_126_code 20 = .ok (.iinc 3 1, 3) := by decide +kernel
theorem d_M_sumNow_23 : decode prog_14_method_126_code 23 = .ok (.goto (-19), 3) := by decide +kernel
theorem d_M_sumNow_26 : decode prog_14_method_126_code 26 = .ok (.iload_n 2, 1) := by decide +kernel
theorem d_M_sumNow_27 : decode prog_14_method_126_code 27 = .ok (.ireturn, 1) := by decide +kernel
noncomputable def Lc_M_sumNow_1 : Xp Bool := o2 (fun x y => decide (x < y)) (vI 3) (o2 (fun x y => x + y) (vI 1) (kI (ii 5)))
noncomputable def Lb_M_sumNow_1 : Sm := sSet 2 (asV Value.int (o2 (fun x y => x + y) (vI 2) (aI 0 (gR 12 47 (vR 0)) (vI 3))))
noncomputable def Lu_M_sumNow_1 : Sm := sInc 3 (ii 1)
noncomputable def F_M_sumNow : Sm := sSeq (sDecl (asV Value.int (kI (ii 0)))) (sSeq (sBlk 3 (sSeq (sDecl (asV Value.int (vI 1))) (sWh (Lc_M_sumNow_1) (Lb_M_sumNow_1) Lu_M_sumNow_1))) (sRet (asV Value.int (vI 2))))
theorem mf_M_sumNow : Mf y_M_sumNow prog_14_method_126_code 4 (some .int) 1 := ⟨tw_2048, tw_134, by decide +kernel⟩
noncomputable def D_M_sumNow : Dn := runS [1, 1] F_M_sumNow
theorem ok_M_sumNow : MOK y_M_sumNow prog_14_method_126_code 4 (some .int) 0 0 0 D_M_sumNow := MOK.of (by decide) (by decide) (show SO Y_M_sumNow [(0, 1), (1, 1)] [(0, 1), (1, 1), (2, 1)] 0 28 (([], 0), ([], 0)) F_M_sumNow from
  (s_seq (sl1 := [(0, 1), (1, 1), (2, 1)]) (p1 := 2) (s_decl (p1 := 1) (e_iconst d_M_sumNow_0 (by decide)) (t_istore_n d_M_sumNow_1 rfl (by decide)) rfl) (s_seq (sl1 := [(0, 1), (1, 1), (2, 1)]) (p1 := 26) (s_blk (sl1 := [(0, 1), (1, 1), (2, 1), (3, 1)]) (s_seq (sl1 := [(0, 1), (1, 1), (2, 1), (3, 1)]) (p1 := 4) (s_decl (p1 := 3) (e_iload_n (k0 := 1) d_M_sumNow_2 rfl rfl) (t_istore_n d_M_sumNow_3 rfl (by decide)) rfl) (s_for (pt := 11) (pu := 20) (pf := 26) (pg := 0) (c_icmp_geF (p1 := 5) (p2 := 8) (tg := 26) (e_iload_n (k0 := 3) d_M_sumNow_4 rfl rfl) (e_iadd (p1 := 6) (p2 := 7) (e_iload_n (k0 := 1) d_M_sumNow_5 rfl rfl) (e_iconst d_M_sumNow_6 (by decide)) d_M_sumNow_7) d_M_sumNow_8 rfl) (s_set (k0 := 2) (p1 := 19) (e_iadd (p1 := 12) (p2 := 18) (e_iload_n (k0 := 2) d_M_sumNow_11 rfl rfl) (e_iald (p1 := 16) (p2 := 17) (e_gR (k0 := 47) (p1 := 13) cf_12 (e_aload_n (k0 := 0) d_M_sumNow_12 rfl rfl) (by decide) tw_1407 d_M_sumNow_13) (e_iload_n (k0 := 3) d_M_sumNow_16 rfl rfl) d_M_sumNow_17) d_M_sumNow_18) (t_istore_n d_M_sumNow_19 rfl (by decide)) rfl rfl) (s_goto (p1 := 23) (s_inc (k0 := 3) d_M_sumNow_20 rfl rfl (Nat.le_of_ble_eq_true rfl) rfl) d_M_sumNow_23 rfl))) rfl) (s_ret (p1 := 27) (e_iload_n (k0 := 2) d_M_sumNow_26 rfl rfl) rfl d_M_sumNow_27))))
/-! BlinkerCrossModel.count(I)I -/
abbrev y_M_count : MethodName := ⟨"BlinkerCrossModel", "count", "(I)I"⟩
abbrev Y_M_count : Yt := (prog_14_method_127_code, 4, "BlinkerCrossModel", 6, (some .int), "count")
theorem d_M_count_0 : decode prog_14_method_127_code 0 = .ok (.aload_n 0, 1) := by decide +kernel
theorem d_M_count_1 : decode prog_14_method_127_code 1 = .ok (.invokevirtual 357, 3) := by decide +kernel
theorem d_M_count_4 : decode prog_14_method_127_code 4 = .ok (.iconst 0, 1) := by decide +kernel
theorem d_M_count_5 : decode prog_14_method_127_code 5 = .ok (.istore_n 2, 1) := by decide +kernel
theorem d_M_count_6 : decode prog_14_method_127_code 6 = .ok (.iload_n 1, 1) := by decide +kernel
theorem d_M_count_7 : decode prog_14_method_127_code 7 = .ok (.tableswitch 272 0 15 #[77, 87, 97, 105, 110, 115, 120, 154, 185, 190, 195, 200, 245, 252, 259, 265], 77) := by decide +kernel
theorem d_M_count_84 : decode prog_14_method_127_code 84 = .ok (.aload_n 0, 1) := by decide +kernel
theorem d_M_count_85 : decode prog_14_method_127_code 85 = .ok (.getfield 46, 3) := by decide +kernel
theorem d_M_count_88 : decode prog_14_method_127_code 88 = .ok (.aload_n 0, 1) := by decide +kernel
theorem d_M_count_89 : decode prog_14_method_127_code 89 = .ok (.getfield 242, 3) := by decide +kernel
theorem d_M_count_92 : decode prog_14_method_127_code 92 = .ok (.iaload, 1) := by decide +kernel
theorem d_M_count_93 : decode prog_14_method_127_code 93 = .ok (.ireturn, 1) := by decide +kernel
theorem d_M_count_94 : decode prog_14_method_127_code 94 = .ok (.aload_n 0, 1) := by decide +kernel
theorem d_M_count_95 : decode prog_14_method_127_code 95 = .ok (.getfield 52, 3) := by decide +kernel
theorem d_M_count_98 : decode prog_14_method_127_code 98 = .ok (.aload_n 0, 1) := by decide +kernel
theorem d_M_count_99 : decode prog_14_method_127_code 99 = .ok (.getfield 242, 3) := by decide +kernel
theorem d_M_count_102 : decode prog_14_method_127_code 102 = .ok (.iaload, 1) := by decide +kernel
theorem d_M_count_103 : decode prog_14_method_127_code 103 = .ok (.ireturn, 1) := by decide +kernel
theorem d_M_count_104 : decode prog_14_method_127_code 104 = .ok (.aload_n 0, 1) := by decide +kernel
theorem d_M_count_105 : decode prog_14_method_127_code 105 = .ok (.getfield 110, 3) := by decide +kernel
theorem d_M_count_108 : decode prog_14_method_127_code 108 = .ok (.bipush 55, 2) := by decide +kernel
theorem d_M_count_110 : decode prog_14_method_127_code 110 = .ok (.iaload, 1) := by decide +kernel
theorem d_M_count_111 : decode prog_14_method_127_code 111 = .ok (.ireturn, 1) := by decide +kernel
theorem d_M_count_112 : decode prog_14_method_127_code 112 = .ok (.aload_n 0, 1) := by decide +kernel
theorem d_M_count_113 : decode prog_14_method_127_code 113 = .ok (.invokevirtual 453, 3) := by decide +kernel
theorem d_M_count_116 : decode prog_14_method_127_code 116 = .ok (.ireturn, 1) := by decide +kernel
theorem d_M_count_117 : decode prog_14_method_127_code 117 = .ok (.aload_n 0, 1) := by decide +kernel
theorem d_M_count_118 : decode prog_14_method_127_code 118 = .ok (.invokevirtual 447, 3) := by decide +kernel
theorem d_M_count_121 : decode prog_14_method_127_code 121 = .ok (.ireturn, 1) := by decide +kernel
theorem d_M_count_122 : decode prog_14_method_127_code 122 = .ok (.aload_n 0, 1) := by decide +kernel
theorem d_M_count_123 : decode prog_14_method_127_code 123 = .ok (.invokevirtual 491, 3) := by decide +kernel
theorem d_M_count_126 : decode prog_14_method_127_code 126 = .ok (.ireturn, 1) := by decide +kernel
theorem d_M_count_127 : decode prog_14_method_127_code 127 = .ok (.iconst 0, 1) := by decide +kernel
theorem d_M_count_128 : decode prog_14_method_127_code 128 = .ok (.istore_n 3, 1) := by decide +kernel
theorem d_M_count_129 : decode prog_14_method_127_code 129 = .ok (.iload_n 3, 1) := by decide +kernel
theorem d_M_count_130 : decode prog_14_method_127_code 130 = .ok (.aload_n 0, 1) := by decide +kernel
theorem d_M_count_131 : decode prog_14_method_127_code 131 = .ok (.getfield 52, 3) := by decide +kernel
theorem d_M_count_134 : decode prog_14_method_127_code 134 = .ok (.aload_n 0, 1) := by decide +kernel
theorem d_M_count_135 : decode prog_14_method_127_code 135 = .ok (.getfield 242, 3) := by decide +kernel
theorem d_M_count_138 : decode prog_14_method_127_code 138 = .ok (.iaload, 1) := by decide +kernel
theorem d_M_count_139 : decode prog_14_method_127_code 139 = .ok (.if_icmp .ge 20, 3) := by decide +kernel
theorem d_M_count_142 : decode prog_14_method_127_code 142 = .ok (.iload_n 2, 1) := by decide +kernel
theorem d_M_count_143 : decode prog_14_method_127_code 143 = .ok (.iconst 1, 1) := by decide +kernel
theorem d_M_count_144 : decode prog_14_method_127_code 144 = .ok (.aload_n 0, 1) := by decide +kernel
theorem d_M_count_145 : decode prog_14_method_127_code 145 = .ok (.getfield 113, 3) := by decide +kernel
theorem d_M_count_148 : decode prog_14_method_127_code 148 = .ok (.iload_n 3, 1) := by decide +kernel
theorem d_M_count_149 : decode prog_14_method_127_code 149 = .ok (.iaload, 1) := by decide +kernel
theorem d_M_count_150 : decode prog_14_method_127_code 150 = .ok (.ishl, 1) := by decide +kernel
theorem d_M_count_151 : decode prog_14_method_127_code 151 = .ok (.ior, 1) := by decide +kernel
theorem d_M_count_152 : decode prog_14_method_127_code 152 = .ok (.istore_n 2, 1) := by decide +kernel
theorem d_M_count_153 : decode prog_14_method_127_code 153 = .ok (.iinc 3 1, 3) := by decide +kernel
theorem d_M_count_156 : decode prog_14_method_127_code 156 = .ok (.goto (-27), 3) := by decide +kernel
theorem d_M_count_159 : decode prog_14_method_127_code 159 = .ok (.iload_n 2, 1) := by decide +kernel
theorem d_M_count_160 : decode prog_14_method_127_code 160 = .ok (.ireturn, 1) := by decide +kernel
theorem d_M_count_161 : decode prog_14_method_127_code 161 = .ok (.iconst 0, 1) := by decide +kernel
theorem d_M_count_162 : decode prog_14_method_127_code 162 = .ok (.istore_n 3, 1) := by decide +kernel
theorem d_M_count_163 : decode prog_14_method_127_code 163 = .ok (.iload_n 3, 1) := by decide +kernel
theorem d_M_count_164 : decode prog_14_method_127_code 164 = .ok (.aload_n 0, 1) := by decide +kernel
theorem d_M_count_165 : decode prog_14_method_127_code 165 = .ok (.getfield 52, 3) := by decide +kernel
theorem d_M_count_168 : decode prog_14_method_127_code 168 = .ok (.aload_n 0, 1) := by decide +kernel
theorem d_M_count_169 : decode prog_14_method_127_code 169 = .ok (.getfield 242, 3) := by decide +kernel
theorem d_M_count_172 : decode prog_14_method_127_code 172 = .ok (.iaload, 1) := by decide +kernel
theorem d_M_count_173 : decode prog_14_method_127_code 173 = .ok (.if_icmp .ge 17, 3) := by decide +kernel
theorem d_M_count_176 : decode prog_14_method_127_code 176 = .ok (.iload_n 2, 1) := by decide +kernel
theorem d_M_count_177 : decode prog_14_method_127_code 177 = .ok (.aload_n 0, 1) := by decide +kernel
theorem d_M_count_178 : decode prog_14_method_127_code 178 = .ok (.iload_n 3, 1) := by decide +kernel
theorem d_M_count_179 : decode prog_14_method_127_code 179 = .ok (.invokevirtual 370, 3) := by decide +kernel
theorem d_M_count_182 : decode prog_14_method_127_code 182 = .ok (.ior, 1) := by decide +kernel
theorem d_M_count_183 : decode prog_14_method_127_code 183 = .ok (.istore_n 2, 1) := by decide +kernel
theorem d_M_count_184 : decode prog_14_method_127_code 184 = .ok (.iinc 3 1, 3) := by decide +kernel
theorem d_M_count_187 : decode prog_14_method_127_code 187 = .ok (.goto (-24), 3) := by decide +kernel
theorem d_M_count_190 : decode prog_14_method_127_code 190 = .ok (.iload_n 2, 1) := by decide +kernel
theorem d_M_count_191 : decode prog_14_method_127_code 191 = .ok (.ireturn, 1) := by decide +kernel
theorem d_M_count_192 : decode prog_14_method_127_code 192 = .ok (.aload_n 0, 1) := by decide +kernel
theorem d_M_count_193 : decode prog_14_method_127_code 193 = .ok (.getfield 175, 3) := by decide +kernel
theorem d_M_count_196 : decode prog_14_method_127_code 196 = .ok (.ireturn, 1) := by decide +kernel
theorem d_M_count_197 : decode prog_14_method_127_code 197 = .ok (.aload_n 0, 1) := by decide +kernel
theorem d_M_count_198 : decode prog_14_method_127_code 198 = .ok (.getfield 260, 3) := by decide +kernel
theorem d_M_count_201 : decode prog_14_method_127_code 201 = .ok (.ireturn, 1) := by decide +kernel
theorem d_M_count_202 : decode prog_14_method_127_code 202 = .ok (.aload_n 0, 1) := by decide +kernel
theorem d_M_count_203 : decode prog_14_method_127_code 203 = .ok (.getfield 263, 3) := by decide +kernel
theorem d_M_count_206 : decode prog_14_method_127_code 206 = .ok (.ireturn, 1) := by decide +kernel
theorem d_M_count_207 : decode prog_14_method_127_code 207 = .ok (.aload_n 0, 1) := by decide +kernel
theorem d_M_count_208 : decode prog_14_method_127_code 208 = .ok (.getfield 155, 3) := by decide +kernel
theorem d_M_count_211 : decode prog_14_method_127_code 211 = .ok (.iconst 0, 1) := by decide +kernel
theorem d_M_count_212 : decode prog_14_method_127_code 212 = .ok (.baload, 1) := by decide +kernel
theorem d_M_count_213 : decode prog_14_method_127_code 213 = .ok (.ifCond .eq 7, 3) := by decide +kernel
theorem d_M_count_216 : decode prog_14_method_127_code 216 = .ok (.iconst 1, 1) := by decide +kernel
theorem d_M_count_217 : decode prog_14_method_127_code 217 = .ok (.goto 4, 3) := by decide +kernel
theorem d_M_count_220 : decode prog_14_method_127_code 220 = .ok (.iconst 0, 1) := by decide +kernel
theorem d_M_count_221 : decode prog_14_method_127_code 221 = .ok (.aload_n 0, 1) := by decide +kernel
theorem d_M_count_222 : decode prog_14_method_127_code 222 = .ok (.getfield 155, 3) := by decide +kernel
theorem d_M_count_225 : decode prog_14_method_127_code 225 = .ok (.iconst 1, 1) := by decide +kernel
theorem d_M_count_226 : decode prog_14_method_127_code 226 = .ok (.baload, 1) := by decide +kernel
theorem d_M_count_227 : decode prog_14_method_127_code 227 = .ok (.ifCond .eq 7, 3) := by decide +kernel
theorem d_M_count_230 : decode prog_14_method_127_code 230 = .ok (.iconst 1, 1) := by decide +kernel
theorem d_M_count_231 : decode prog_14_method_127_code 231 = .ok (.goto 4, 3) := by decide +kernel
theorem d_M_count_234 : decode prog_14_method_127_code 234 = .ok (.iconst 0, 1) := by decide +kernel
theorem d_M_count_235 : decode prog_14_method_127_code 235 = .ok (.iadd, 1) := by decide +kernel
theorem d_M_count_236 : decode prog_14_method_127_code 236 = .ok (.aload_n 0, 1) := by decide +kernel
theorem d_M_count_237 : decode prog_14_method_127_code 237 = .ok (.getfield 155, 3) := by decide +kernel
theorem d_M_count_240 : decode prog_14_method_127_code 240 = .ok (.iconst 2, 1) := by decide +kernel
theorem d_M_count_241 : decode prog_14_method_127_code 241 = .ok (.baload, 1) := by decide +kernel
theorem d_M_count_242 : decode prog_14_method_127_code 242 = .ok (.ifCond .eq 7, 3) := by decide +kernel
theorem d_M_count_245 : decode prog_14_method_127_code 245 = .ok (.iconst 1, 1) := by decide +kernel
theorem d_M_count_246 : decode prog_14_method_127_code 246 = .ok (.goto 4, 3) := by decide +kernel
theorem d_M_count_249 : decode prog_14_method_127_code 249 = .ok (.iconst 0, 1) := by decide +kernel
theorem d_M_count_250 : decode prog_14_method_127_code 250 = .ok (.iadd, 1) := by decide +kernel
theorem d_M_count_251 : decode prog_14_method_127_code 251 = .ok (.ireturn, 1) := by decide +kernel
theorem d_M_count_252 : decode prog_14_method_127_code 252 = .ok (.aload_n 0, 1) := by decide +kernel
theorem d_M_count_253 : decode prog_14_method_127_code 253 = .ok (.bipush 15, 2) := by decide +kernel
theorem d_M_count_255 : decode prog_14_method_127_code 255 = .ok (.invokevirtual 513, 3) := by decide +kernel
theorem d_M_count_258 : decode prog_14_method_127_code 258 = .ok (.ireturn, 1) := by decide +kernel
theorem d_M_count_259 : decode prog_14_method_127_code 259 = .ok (.aload_n 0, 1) := by decide +kernel
theorem d_M_count_260 : decode prog_14_method_127_code 260 = .ok (.bipush 20, 2) := by decide +kernel
theorem d_M_count_262 : decode prog_14_method_127_code 262 = .ok (.invokevirtual 513, 3) := by decide +kernel
theorem d_M_count_265 : decode prog_14_method_127_code 265 = .ok (.ireturn, 1) := by decide +kernel
theorem d_M_count_266 : decode prog_14_method_127_code 266 = .ok (.aload_n 0, 1) := by decide +kernel
theorem d_M_count_267 : decode prog_14_method_127_code 267 = .ok (.iconst 5, 1) := by decide +kernel
theorem d_M_count_268 : decode prog_14_method_127_code 268 = .ok (.invokevirtual 513, 3) := by decide +kernel
theorem d_M_count_271 : decode prog_14_method_127_code 271 = .ok (.ireturn, 1) := by decide +kernel
theorem d_M_count_272 : decode prog_14_method_127_code 272 = .ok (.aload_n 0, 1) := by decide +kernel
theorem d_M_count_273 : decode prog_14_method_127_code 273 = .ok (.bipush 10, 2) := by decide +kernel
theorem d_M_count_275 : decode prog_14_method_127_code 275 = .ok (.invokevirtual 513, 3) := by decide +kernel
theorem d_M_count_278 : decode prog_14_method_127_code 278 = .ok (.ireturn, 1) := by decide +kernel
theorem d_M_count_279 : decode prog_14_method_127_code 279 = .ok (.ldc_w 421, 3) := by decide +kernel
theorem d_M_count_282 : decode prog_14_method_127_code 282 = .ok (.ireturn, 1) := by decide +kernel
noncomputable def Lc_M_count_1 : Xp Bool := o2 (fun x y => decide (x < y)) (vI 3) (aI 0 (gR 12 25 (vR 0)) (gI 12 18 (vR 0)))
noncomputable def Lb_M_count_1 : Sm := sSet 2 (asV Value.int (o2 (fun x y => x ||| y) (vI 2) (o2 (fun (x y : Int32) => x <<< (y &&& 31)) (kI (ii 1)) (aI 0 (gR 12 52 (vR 0)) (vI 3)))))
noncomputable def Lu_M_count_1 : Sm := sInc 3 (ii 1)
noncomputable def Lc_M_count_2 : Xp Bool := o2 (fun x y => decide (x < y)) (vI 3) (aI 0 (gR 12 25 (vR 0)) (gI 12 18 (vR 0)))
noncomputable def Lb_M_count_2 : Sm := sSet 2 (asV Value.int (o2 (fun x y => x ||| y) (vI 2) (cI (mV 12 D_M_seenBits) [asV Value.ref (vR 0), asV Value.int (vI 3)])))
noncomputable def Lu_M_count_2 : Sm := sInc 3 (ii 1)
noncomputable def F_M_count : Sm := sSeq (sCall (mV 12 D_M_copies) [asV Value.ref (vR 0)]) (sSeq (sDecl (asV Value.int (kI (ii 0)))) (sSw (vI 1) [(ii 0, sRet (asV Value.int (aI 0 (gR 12 23 (vR 0)) (gI 12 18 (vR 0))))), (ii 1, sRet (asV Value.int (aI 0 (gR 12 25 (vR 0)) (gI 12 18 (vR 0))))), (ii 2, sRet (asV Value.int (aI 0 (gR 12 48 (vR 0)) (kI (ii 55))))), (ii 3, sRet (asV Value.int (cI (mV 12 D_M_standsAll) [asV Value.ref (vR 0)]))), (ii 4, sRet (asV Value.int (cI (mV 12 D_M_missedAll) [asV Value.ref (vR 0)]))), (ii 5, sRet (asV Value.int (cI (mV 12 D_M_gainAll) [asV Value.ref (vR 0)]))), (ii 6, sSeq (sBlk 3 (sSeq (sDecl (asV Value.int (kI (ii 0)))) (sWh (Lc_M_count_1) (Lb_M_count_1) Lu_M_count_1))) (sRet (asV Value.int (vI 2)))), (ii 7, sSeq (sBlk 3 (sSeq (sDecl (asV Value.int (kI (ii 0)))) (sWh (Lc_M_count_2) (Lb_M_count_2) Lu_M_count_2))) (sRet (asV Value.int (vI 2)))), (ii 8, sRet (asV Value.int (gI 12 2 (vR 0)))), (ii 9, sRet (asV Value.int (gI 12 57 (vR 0)))), (ii 10, sRet (asV Value.int (gI 12 67 (vR 0)))), (ii 11, sRet (asV Value.int (o2 (fun x y => x + y) (o2 (fun x y => x + y) (iX (o1 (fun x => decide (x ≠ 0)) (aI 3 (gR 12 71 (vR 0)) (kI (ii 0)))) (kI (ii 1)) (kI (ii 0))) (iX (o1 (fun x => decide (x ≠ 0)) (aI 3 (gR 12 71 (vR 0)) (kI (ii 1)))) (kI (ii 1)) (kI (ii 0)))) (iX (o1 (fun x => decide (x ≠ 0)) (aI 3 (gR 12 71 (vR 0)) (kI (ii 2)))) (kI (ii 1)) (kI (ii 0)))))), (ii 12, sRet (asV Value.int (cI (mV 12 D_M_sumNow) [asV Value.ref (vR 0), asV Value.int (kI (ii 15))]))), (ii 13, sRet (asV Value.int (cI (mV 12 D_M_sumNow) [asV Value.ref (vR 0), asV Value.int (kI (ii 20))]))), (ii 14, sRet (asV Value.int (cI (mV 12 D_M_sumNow) [asV Value.ref (vR 0), asV Value.int (kI (ii 5))]))), (ii 15, sRet (asV Value.int (cI (mV 12 D_M_sumNow) [asV Value.ref (vR 0), asV Value.int (kI (ii 10))])))] (sRet (asV Value.int (kI (ii (-100000)))))))
theorem mf_M_count : Mf y_M_count prog_14_method_127_code 4 (some .int) 1 := ⟨tw_2044, tw_134, by decide +kernel⟩
noncomputable def D_M_count : Dn := runS [1, 1] F_M_count
set_option maxRecDepth 100000 in
theorem ok_M_count : MOK y_M_count prog_14_method_127_code 4 (some .int) 6 0 0 D_M_count := MOK.of (by decide) (by decide) (show SO Y_M_count [(0, 1), (1, 1)] [(0, 1), (1, 1), (2, 1)] 0 0 (([], 0), ([], 0)) F_M_count from
  (s_seq (sl1 := [(0, 1), (1, 1)]) (p1 := 4) (s_call (p1 := 1) (a_cons (ι := Value.ref) (k0 := 1) (p1 := 1) (fun _ => rfl) (e_aload_n (k0 := 0) d_M_count_0 rfl rfl) a_nil) (k_virt ok_M_copies mf_M_copies ⟨tw_1707, tw_73⟩ rfl tw_1705 d_M_count_1 (by decide) (by decide) (by decide))) (s_seq (sl1 := [(0, 1), (1, 1), (2, 1)]) (p1 := 6) (s_decl (p1 := 5) (e_iconst d_M_count_4 (by decide)) (t_istore_n d_M_count_5 rfl (by decide)) rfl) (s_tab (p1 := 7) (P := [(ii 0, 84), (ii 1, 94), (ii 2, 104), (ii 3, 112), (ii 4, 117), (ii 5, 122), (ii 6, 127), (ii 7, 161), (ii 8, 192), (ii 9, 197), (ii 10, 202), (ii 11, 207), (ii 12, 252), (ii 13, 259), (ii 14, 266), (ii 15, 272)]) (pd := 279) (jc := ([], 0)) (dflt := 272) (lo := 0) (hi := 15) (offs := #[77, 87, 97, 105, 110, 115, 120, 154, 185, 190, 195, 200, 245, 252, 259, 265]) (len := 77) (e_iload_n (k0 := 1) d_M_count_6 rfl rfl) d_M_count_7 (by decide) (by decide +kernel) ⟨rfl, (s_ret (p1 := 93) (e_iald (p1 := 88) (p2 := 92) (e_gR (k0 := 23) (p1 := 85) cf_12 (e_aload_n (k0 := 0) d_M_count_84 rfl rfl) (by decide) tw_1383 d_M_count_85) (e_gI (k0 := 18) (p1 := 89) cf_12 (e_aload_n (k0 := 0) d_M_count_88 rfl rfl) (by decide) tw_1378 d_M_count_89) d_M_count_92) rfl d_M_count_93), ⟨rfl, (s_ret (p1 := 103) (e_iald (p1 := 98) (p2 := 102) (e_gR (k0 := 25) (p1 := 95) cf_12 (e_aload_n (k0 := 0) d_M_count_94 rfl rfl) (by decide) tw_1385 d_M_count_95) (e_gI (k0 := 18) (p1 := 99) cf_12 (e_aload_n (k0 := 0) d_M_count_98 rfl rfl) (by decide) tw_1378 d_M_count_99) d_M_count_102) rfl d_M_count_103), ⟨rfl, (s_ret (p1 := 111) (e_iald (p1 := 108) (p2 := 110) (e_gR (k0 := 48) (p1 := 105) cf_12 (e_aload_n (k0 := 0) d_M_count_104 rfl rfl) (by decide) tw_1408 d_M_count_105) (e_bipush d_M_count_108 (by decide)) d_M_count_110) rfl d_M_count_111), ⟨rfl, (s_ret (p1 := 116) (e_cI (p1 := 113) (a_cons (ι := Value.ref) (k0 := 1) (p1 := 113) (fun _ => rfl) (e_aload_n (k0 := 0) d_M_count_112 rfl rfl) a_nil) (k_virt ok_M_standsAll mf_M_standsAll ⟨tw_1893, tw_106⟩ rfl tw_1891 d_M_count_113 (by decide) (by decide) (by decide))) rfl d_M_count_116), ⟨rfl, (s_ret (p1 := 121) (e_cI (p1 := 118) (a_cons (ι := Value.ref) (k0 := 1) (p1 := 118) (fun _ => rfl) (e_aload_n (k0 := 0) d_M_count_117 rfl rfl) a_nil) (k_virt ok_M_missedAll mf_M_missedAll ⟨tw_1889, tw_105⟩ rfl tw_1887 d_M_count_118 (by decide) (by decide) (by decide))) rfl d_M_count_121), ⟨rfl, (s_ret (p1 := 126) (e_cI (p1 := 123) (a_cons (ι := Value.ref) (k0 := 1) (p1 := 123) (fun _ => rfl) (e_aload_n (k0 := 0) d_M_count_122 rfl rfl) a_nil) (k_virt ok_M_gainAll mf_M_gainAll ⟨tw_1957, tw_116⟩ rfl tw_1955 d_M_count_123 (by decide) (by decide) (by decide))) rfl d_M_count_126), ⟨rfl, (s_seq (sl1 := [(0, 1), (1, 1), (2, 1)]) (p1 := 159) (s_blk (sl1 := [(0, 1), (1, 1), (2, 1), (3, 1)]) (s_seq (sl1 := [(0, 1), (1, 1), (2, 1), (3, 1)]) (p1 := 129) (s_decl (p1 := 128) (e_iconst d_M_count_127 (by decide)) (t_istore_n d_M_count_128 rfl (by decide)) rfl) (s_for (pt := 142) (pu := 153) (pf := 159) (pg := 0) (c_icmp_geF (p1 := 130) (p2 := 139) (tg := 159) (e_iload_n (k0 := 3) d_M_count_129 rfl rfl) (e_iald (p1 := 134) (p2 := 138) (e_gR (k0 := 25) (p1 := 131) cf_12 (e_aload_n (k0 := 0) d_M_count_130 rfl rfl) (by decide) tw_1385 d_M_count_131) (e_gI (k0 := 18) (p1 := 135) cf_12 (e_aload_n (k0 := 0) d_M_count_134 rfl rfl) (by decide) tw_1378 d_M_count_135) d_M_count_138) d_M_count_139 rfl) (s_set (k0 := 2) (p1 := 152) (e_ior (p1 := 143) (p2 := 151) (e_iload_n (k0 := 2) d_M_count_142 rfl rfl) (e_ishl (p1 := 144) (p2 := 150) (e_iconst d_M_count_143 (by decide)) (e_iald (p1 := 148) (p2 := 149) (e_gR (k0 := 52) (p1 := 145) cf_12 (e_aload_n (k0 := 0) d_M_count_144 rfl rfl) (by decide) tw_1412 d_M_count_145) (e_iload_n (k0 := 3) d_M_count_148 rfl rfl) d_M_count_149) d_M_count_150) d_M_count_151) (t_istore_n d_M_count_152 rfl (by decide)) rfl rfl) (s_goto (p1 := 156) (s_inc (k0 := 3) d_M_count_153 rfl rfl (Nat.le_of_ble_eq_true rfl) rfl) d_M_count_156 rfl))) rfl) (s_ret (p1 := 160) (e_iload_n (k0 := 2) d_M_count_159 rfl rfl) rfl d_M_count_160)), ⟨rfl, (s_seq (sl1 := [(0, 1), (1, 1), (2, 1)]) (p1 := 190) (s_blk (sl1 := [(0, 1), (1, 1), (2, 1), (3, 1)]) (s_seq (sl1 := [(0, 1), (1, 1), (2, 1), (3, 1)]) (p1 := 163) (s_decl (p1 := 162) (e_iconst d_M_count_161 (by decide)) (t_istore_n d_M_count_162 rfl (by decide)) rfl) (s_for (pt := 176) (pu := 184) (pf := 190) (pg := 0) (c_icmp_geF (p1 := 164) (p2 := 173) (tg := 190) (e_iload_n (k0 := 3) d_M_count_163 rfl rfl) (e_iald (p1 := 168) (p2 := 172) (e_gR (k0 := 25) (p1 := 165) cf_12 (e_aload_n (k0 := 0) d_M_count_164 rfl rfl) (by decide) tw_1385 d_M_count_165) (e_gI (k0 := 18) (p1 := 169) cf_12 (e_aload_n (k0 := 0) d_M_count_168 rfl rfl) (by decide) tw_1378 d_M_count_169) d_M_count_172) d_M_count_173 rfl) (s_set (k0 := 2) (p1 := 183) (e_ior (p1 := 177) (p2 := 182) (e_iload_n (k0 := 2) d_M_count_176 rfl rfl) (e_cI (p1 := 179) (a_cons (ι := Value.ref) (k0 := 1) (p1 := 178) (fun _ => rfl) (e_aload_n (k0 := 0) d_M_count_177 rfl rfl) (a_cons (ι := Value.int) (k0 := 1) (p1 := 179) (fun _ => rfl) (e_iload_n (k0 := 3) d_M_count_178 rfl rfl) a_nil)) (k_virt ok_M_seenBits mf_M_seenBits ⟨tw_1743, tw_82⟩ rfl tw_1741 d_M_count_179 (by decide) (by decide) (by decide))) d_M_count_182) (t_istore_n d_M_count_183 rfl (by decide)) rfl rfl) (s_goto (p1 := 187) (s_inc (k0 := 3) d_M_count_184 rfl rfl (Nat.le_of_ble_eq_true rfl) rfl) d_M_count_187 rfl))) rfl) (s_ret (p1 := 191) (e_iload_n (k0 := 2) d_M_count_190 rfl rfl) rfl d_M_count_191)), ⟨rfl, (s_ret (p1 := 196) (e_gI (k0 := 2) (p1 := 193) cf_12 (e_aload_n (k0 := 0) d_M_count_192 rfl rfl) (by decide) tw_1362 d_M_count_193) rfl d_M_count_196), ⟨rfl, (s_ret (p1 := 201) (e_gI (k0 := 57) (p1 := 198) cf_12 (e_aload_n (k0 := 0) d_M_count_197 rfl rfl) (by decide) tw_1417 d_M_count_198) rfl d_M_count_201), ⟨rfl, (s_ret (p1 := 206) (e_gI (k0 := 67) (p1 := 203) cf_12 (e_aload_n (k0 := 0) d_M_count_202 rfl rfl) (by decide) tw_1427 d_M_count_203) rfl d_M_count_206), ⟨rfl, (s_ret (p1 := 251) (e_iadd (p1 := 236) (p2 := 250) (e_iadd (p1 := 221) (p2 := 235) (e_ite (pt := 216) (p1 := 217) (pf := 220) (c_if_eqF (p1 := 213) (tg := 220) (e_zald (p1 := 211) (p2 := 212) (e_gR (k0 := 71) (p1 := 208) cf_12 (e_aload_n (k0 := 0) d_M_count_207 rfl rfl) (by decide) tw_1431 d_M_count_208) (e_iconst d_M_count_211 (by decide)) d_M_count_212) d_M_count_213 rfl) (e_iconst d_M_count_216 (by decide)) d_M_count_217 rfl (e_iconst d_M_count_220 (by decide))) (e_ite (pt := 230) (p1 := 231) (pf := 234) (c_if_eqF (p1 := 227) (tg := 234) (e_zald (p1 := 225) (p2 := 226) (e_gR (k0 := 71) (p1 := 222) cf_12 (e_aload_n (k0 := 0) d_M_count_221 rfl rfl) (by decide) tw_1431 d_M_count_222) (e_iconst d_M_count_225 (by decide)) d_M_count_226) d_M_count_227 rfl) (e_iconst d_M_count_230 (by decide)) d_M_count_231 rfl (e_iconst d_M_count_234 (by decide))) d_M_count_235) (e_ite (pt := 245) (p1 := 246) (pf := 249) (c_if_eqF (p1 := 242) (tg := 249) (e_zald (p1 := 240) (p2 := 241) (e_gR (k0 := 71) (p1 := 237) cf_12 (e_aload_n (k0 := 0) d_M_count_236 rfl rfl) (by decide) tw_1431 d_M_count_237) (e_iconst d_M_count_240 (by decide)) d_M_count_241) d_M_count_242 rfl) (e_iconst d_M_count_245 (by decide)) d_M_count_246 rfl (e_iconst d_M_count_249 (by decide))) d_M_count_250) rfl d_M_count_251), ⟨rfl, (s_ret (p1 := 258) (e_cI (p1 := 255) (a_cons (ι := Value.ref) (k0 := 1) (p1 := 253) (fun _ => rfl) (e_aload_n (k0 := 0) d_M_count_252 rfl rfl) (a_cons (ι := Value.int) (k0 := 1) (p1 := 255) (fun _ => rfl) (e_bipush d_M_count_253 (by decide)) a_nil)) (k_virt ok_M_sumNow mf_M_sumNow ⟨tw_2047, tw_120⟩ rfl tw_2045 d_M_count_255 (by decide) (by decide) (by decide))) rfl d_M_count_258), ⟨rfl, (s_ret (p1 := 265) (e_cI (p1 := 262) (a_cons (ι := Value.ref) (k0 := 1) (p1 := 260) (fun _ => rfl) (e_aload_n (k0 := 0) d_M_count_259 rfl rfl) (a_cons (ι := Value.int) (k0 := 1) (p1 := 262) (fun _ => rfl) (e_bipush d_M_count_260 (by decide)) a_nil)) (k_virt ok_M_sumNow mf_M_sumNow ⟨tw_2047, tw_120⟩ rfl tw_2045 d_M_count_262 (by decide) (by decide) (by decide))) rfl d_M_count_265), ⟨rfl, (s_ret (p1 := 271) (e_cI (p1 := 268) (a_cons (ι := Value.ref) (k0 := 1) (p1 := 267) (fun _ => rfl) (e_aload_n (k0 := 0) d_M_count_266 rfl rfl) (a_cons (ι := Value.int) (k0 := 1) (p1 := 268) (fun _ => rfl) (e_iconst d_M_count_267 (by decide)) a_nil)) (k_virt ok_M_sumNow mf_M_sumNow ⟨tw_2047, tw_120⟩ rfl tw_2045 d_M_count_268 (by decide) (by decide) (by decide))) rfl d_M_count_271), ⟨rfl, (s_ret (p1 := 278) (e_cI (p1 := 275) (a_cons (ι := Value.ref) (k0 := 1) (p1 := 273) (fun _ => rfl) (e_aload_n (k0 := 0) d_M_count_272 rfl rfl) (a_cons (ι := Value.int) (k0 := 1) (p1 := 275) (fun _ => rfl) (e_bipush d_M_count_273 (by decide)) a_nil)) (k_virt ok_M_sumNow mf_M_sumNow ⟨tw_2047, tw_120⟩ rfl tw_2045 d_M_count_275 (by decide) (by decide) (by decide))) rfl d_M_count_278), trivial⟩⟩⟩⟩⟩⟩⟩⟩⟩⟩⟩⟩⟩⟩⟩⟩ (s_ret (p1 := 282) (e_ldcw d_M_count_279 tw_1796) rfl d_M_count_282)))))

/-! Methods: bytes, denotations, that the bytes do so (written by wip/whole/jgen.py). -/
/-! BlinkerCrossModel.greatestWant(III)I -/
abbrev y_M_greatestWant : MethodName := ⟨"BlinkerCrossModel", "greatestWant", "(III)I"⟩
abbrev Y_M_greatestWant : Yt := (prog_14_method_52_code, 6, "BlinkerCrossModel", 1, (some .int), "greatestWant")
theorem d_M_greatestWant_0 : decode prog_14_method_52_code 0 = .ok (.iconst 0, 1) := by decide +kernel
theorem d_M_greatestWant_1 : decode prog_14_method_52_code 1 = .ok (.istore 4, 2) := by decide +kernel
theorem d_M_greatestWant_3 : decode prog_14_method_52_code 3 = .ok (.iconst 0, 1) := by decide +kernel
theorem d_M_greatestWant_4 : decode prog_14_method_52_code 4 = .ok (.istore 5, 2) := by decide +kernel
theorem d_M_greatestWant_6 : decode prog_14_method_52_code 6 = .ok (.iload 5, 2) := by decide +kernel
theorem d_M_greatestWant_8 : decode prog_14_method_52_code 8 = .ok (.aload_n 0, 1) := by decide +kernel
theorem d_M_greatestWant_9 : decode prog_14_method_52_code 9 = .ok (.getfield 46, 3) := by decide +kernel
theorem d_M_greatestWant_12 : decode prog_14_method_52_code 12 = .ok (.aload_n 0, 1) := by decide +kernel
theorem d_M_greatestWant_13 : decode prog_14_method_52_code 13 = .ok (.getfield 242, 3) := by decide +kernel
theorem d_M_greatestWant_16 : decode prog_14_method_52_code 16 = .ok (.iaload, 1) := by decide +kernel
theorem d_M_greatestWant_17 : decode prog_14_method_52_code 17 = .ok (.if_icmp .ge 46, 3) := by decide +kernel
theorem d_M_greatestWant_20 : decode prog_14_method_52_code 20 = .ok (.iload_n 2, 1) := by decide +kernel
theorem d_M_greatestWant_21 : decode prog_14_method_52_code 21 = .ok (.iload 5, 2) := by decide +kernel
theorem d_M_greatestWant_23 : decode prog_14_method_52_code 23 = .ok (.ishr, 1) := by decide +kernel
theorem d_M_greatestWant_24 : decode prog_14_method_52_code 24 = .ok (.iconst 1, 1) := by decide +kernel
theorem d_M_greatestWant_25 : decode prog_14_method_52_code 25 = .ok (.iand, 1) := by decide +kernel
theorem d_M_greatestWant_26 : decode prog_14_method_52_code 26 = .ok (.iconst 1, 1) := by decide +kernel
theorem d_M_greatestWant_27 : decode prog_14_method_52_code 27 = .ok (.if_icmp .ne 30, 3) := by decide +kernel
theorem d_M_greatestWant_30 : decode prog_14_method_52_code 30 = .ok (.iload 5, 2) := by decide +kernel
theorem d_M_greatestWant_32 : decode prog_14_method_52_code 32 = .ok (.iload_n 3, 1) := by decide +kernel
theorem d_M_greatestWant_33 : decode prog_14_method_52_code 33 = .ok (.if_icmp .eq 24, 3) := by decide +kernel
theorem d_M_greatestWant_36 : decode prog_14_method_52_code 36 = .ok (.aload_n 0, 1) := by decide +kernel
theorem d_M_greatestWant_37 : decode prog_14_method_52_code 37 = .ok (.iload_n 1, 1) := by decide +kernel
theorem d_M_greatestWant_38 : decode prog_14_method_52_code 38 = .ok (.iload 5, 2) := by decide +kernel
theorem d_M_greatestWant_40 : decode prog_14_method_52_code 40 = .ok (.invokevirtual 342, 3) := by decide +kernel
theorem d_M_greatestWant_43 : decode prog_14_method_52_code 43 = .ok (.iload 4, 2) := by decide +kernel
theorem d_M_greatestWant_45 : decode prog_14_method_52_code 45 = .ok (.if_icmp .le 12, 3) := by decide +kernel
theorem d_M_greatestWant_48 : decode prog_14_method_52_code 48 = .ok (.aload_n 0, 1) := by decide +kernel
theorem d_M_greatestWant_49 : decode prog_14_method_52_code 49 = .ok (.iload_n 1, 1) := by decide +kernel
theorem d_M_greatestWant_50 : decode prog_14_method_52_code 50 = .ok (.iload 5, 2) := by decide +kernel
theorem d_M_greatestWant_52 : decode prog_14_method_52_code 52 = .ok (.invokevirtual 342, 3) := by decide +kernel
theorem d_M_greatestWant_55 : decode prog_14_method_52_code 55 = .ok (.istore 4, 2) := by decide +kernel
theorem d_M_greatestWant_57 : decode prog_14_method_52_code 57 = .ok (.iinc 5 1, 3) := by decide +kernel
theorem d_M_greatestWant_60 : decode prog_14_method_52_code 60 = .ok (.goto (-54), 3) := by decide +kernel
theorem d_M_greatestWant_63 : decode prog_14_method_52_code 63 = .ok (.iload 4, 2) := by decide +kernel
theorem d_M_greatestWant_65 : decode prog_14_method_52_code 65 = .ok (.ireturn, 1) := by decide +kernel
noncomputable def Lc_M_greatestWant_1 : Xp Bool := o2 (fun x y => decide (x < y)) (vI 5) (aI 0 (gR 12 23 (vR 0)) (gI 12 18 (vR 0)))
noncomputable def Lb_M_greatestWant_1 : Sm := sIf (cAnd (cAnd (o2 (fun x y => decide (x = y)) (o2 (fun x y => x &&& y) (o2 (fun (x y : Int32) => x >>> (y &&& 31)) (vI 2) (vI 5)) (kI (ii 1))) (kI (ii 1))) (o2 (fun x y => decide (x ≠ y)) (vI 5) (vI 3))) (o2 (fun x y => decide (x > y)) (cI (mV 12 D_M_wantAt) [asV Value.ref (vR 0), asV Value.int (vI 1), asV Value.int (vI 5)]) (vI 4))) (sSet 4 (asV Value.int (cI (mV 12 D_M_wantAt) [asV Value.ref (vR 0), asV Value.int (vI 1), asV Value.int (vI 5)]))) (sSkip)
noncomputable def Lu_M_greatestWant_1 : Sm := sInc 5 (ii 1)
noncomputable def F_M_greatestWant : Sm := sSeq (sDecl (asV Value.int (kI (ii 0)))) (sSeq (sBlk 5 (sSeq (sDecl (asV Value.int (kI (ii 0)))) (sWh (Lc_M_greatestWant_1) (Lb_M_greatestWant_1) Lu_M_greatestWant_1))) (sRet (asV Value.int (vI 4))))
theorem mf_M_greatestWant : Mf y_M_greatestWant prog_14_method_52_code 6 (some .int) 3 := ⟨tw_1768, tw_134, by decide +kernel⟩
noncomputable def D_M_greatestWant : Dn := runS [1, 1, 1, 1] F_M_greatestWant
theorem ok_M_greatestWant : MOK y_M_greatestWant prog_14_method_52_code 6 (some .int) 1 0 0 D_M_greatestWant := MOK.of (by decide) (by decide) (show SO Y_M_greatestWant [(0, 1), (1, 1), (2, 1), (3, 1)] [(0, 1), (1, 1), (2, 1), (3, 1), (4, 1)] 0 66 (([], 0), ([], 0)) F_M_greatestWant from
  (s_seq (sl1 := [(0, 1), (1, 1), (2, 1), (3, 1), (4, 1)]) (p1 := 3) (s_decl (p1 := 1) (e_iconst d_M_greatestWant_0 (by decide)) (t_istore d_M_greatestWant_1 (by decide)) rfl) (s_seq (sl1 := [(0, 1), (1, 1), (2, 1), (3, 1), (4, 1)]) (p1 := 63) (s_blk (sl1 := [(0, 1), (1, 1), (2, 1), (3, 1), (4, 1), (5, 1)]) (s_seq (sl1 := [(0, 1), (1, 1), (2, 1), (3, 1), (4, 1), (5, 1)]) (p1 := 6) (s_decl (p1 := 4) (e_iconst d_M_greatestWant_3 (by decide)) (t_istore d_M_greatestWant_4 (by decide)) rfl) (s_for (pt := 20) (pu := 57) (pf := 63) (pg := 0) (c_icmp_geF (p1 := 8) (p2 := 17) (tg := 63) (e_iload (k0 := 5) d_M_greatestWant_6 rfl) (e_iald (p1 := 12) (p2 := 16) (e_gR (k0 := 23) (p1 := 9) cf_12 (e_aload_n (k0 := 0) d_M_greatestWant_8 rfl rfl) (by decide) tw_1383 d_M_greatestWant_9) (e_gI (k0 := 18) (p1 := 13) cf_12 (e_aload_n (k0 := 0) d_M_greatestWant_12 rfl rfl) (by decide) tw_1378 d_M_greatestWant_13) d_M_greatestWant_16) d_M_greatestWant_17 rfl) (s_if (pt := 48) (pf := 57) (c_and (p1 := 36) (c_and (p1 := 30) (c_icmp_neF (p1 := 26) (p2 := 27) (tg := 57) (e_iand (p1 := 24) (p2 := 25) (e_ishr (p1 := 21) (p2 := 23) (e_iload_n (k0 := 2) d_M_greatestWant_20 rfl rfl) (e_iload (k0 := 5) d_M_greatestWant_21 rfl) d_M_greatestWant_23) (e_iconst d_M_greatestWant_24 (by decide)) d_M_greatestWant_25) (e_iconst d_M_greatestWant_26 (by decide)) d_M_greatestWant_27 rfl) (c_icmp_eqF (p1 := 32) (p2 := 33) (tg := 57) (e_iload (k0 := 5) d_M_greatestWant_30 rfl) (e_iload_n (k0 := 3) d_M_greatestWant_32 rfl rfl) d_M_greatestWant_33 rfl)) (c_icmp_leF (p1 := 43) (p2 := 45) (tg := 57) (e_cI (p1 := 40) (a_cons (ι := Value.ref) (k0 := 1) (p1 := 37) (fun _ => rfl) (e_aload_n (k0 := 0) d_M_greatestWant_36 rfl rfl) (a_cons (ι := Value.int) (k0 := 1) (p1 := 38) (fun _ => rfl) (e_iload_n (k0 := 1) d_M_greatestWant_37 rfl rfl) (a_cons (ι := Value.int) (k0 := 1) (p1 := 40) (fun _ => rfl) (e_iload (k0 := 5) d_M_greatestWant_38 rfl) a_nil))) (k_virt ok_M_wantAt mf_M_wantAt ⟨tw_1731, tw_79⟩ rfl tw_1729 d_M_greatestWant_40 (by decide) (by decide) (by decide))) (e_iload (k0 := 4) d_M_greatestWant_43 rfl) d_M_greatestWant_45 rfl)) (s_set (k0 := 4) (p1 := 55) (e_cI (p1 := 52) (a_cons (ι := Value.ref) (k0 := 1) (p1 := 49) (fun _ => rfl) (e_aload_n (k0 := 0) d_M_greatestWant_48 rfl rfl) (a_cons (ι := Value.int) (k0 := 1) (p1 := 50) (fun _ => rfl) (e_iload_n (k0 := 1) d_M_greatestWant_49 rfl rfl) (a_cons (ι := Value.int) (k0 := 1) (p1 := 52) (fun _ => rfl) (e_iload (k0 := 5) d_M_greatestWant_50 rfl) a_nil))) (k_virt ok_M_wantAt mf_M_wantAt ⟨tw_1731, tw_79⟩ rfl tw_1729 d_M_greatestWant_52 (by decide) (by decide) (by decide))) (t_istore d_M_greatestWant_55 (by decide)) rfl rfl) s_skip) (s_goto (p1 := 60) (s_inc (k0 := 5) d_M_greatestWant_57 rfl rfl (Nat.le_of_ble_eq_true rfl) rfl) d_M_greatestWant_60 rfl))) rfl) (s_ret (p1 := 65) (e_iload (k0 := 4) d_M_greatestWant_63 rfl) rfl d_M_greatestWant_65))))
/-! BlinkerCrossModel.missedOf(I)I -/
abbrev y_M_missedOf : MethodName := ⟨"BlinkerCrossModel", "missedOf", "(I)I"⟩
abbrev Y_M_missedOf : Yt := (prog_14_method_53_code, 2, "BlinkerCrossModel", 2, (some .int), "missedOf")
theorem d_M_missedOf_0 : decode prog_14_method_53_code 0 = .ok (.aload_n 0, 1) := by decide +kernel
theorem d_M_missedOf_1 : decode prog_14_method_53_code 1 = .ok (.iload_n 1, 1) := by decide +kernel
theorem d_M_missedOf_2 : decode prog_14_method_53_code 2 = .ok (.bipush 63, 2) := by decide +kernel
theorem d_M_missedOf_4 : decode prog_14_method_53_code 4 = .ok (.iconst (-1), 1) := by decide +kernel
theorem d_M_missedOf_5 : decode prog_14_method_53_code 5 = .ok (.invokevirtual 351, 3) := by decide +kernel
theorem d_M_missedOf_8 : decode prog_14_method_53_code 8 = .ok (.aload_n 0, 1) := by decide +kernel
theorem d_M_missedOf_9 : decode prog_14_method_53_code 9 = .ok (.iload_n 1, 1) := by decide +kernel
theorem d_M_missedOf_10 : decode prog_14_method_53_code 10 = .ok (.aload_n 0, 1) := by decide +kernel
theorem d_M_missedOf_11 : decode prog_14_method_53_code 11 = .ok (.getfield 113, 3) := by decide +kernel
theorem d_M_missedOf_14 : decode prog_14_method_53_code 14 = .ok (.iload_n 1, 1) := by decide +kernel
theorem d_M_missedOf_15 : decode prog_14_method_53_code 15 = .ok (.iaload, 1) := by decide +kernel
theorem d_M_missedOf_16 : decode prog_14_method_53_code 16 = .ok (.invokevirtual 342, 3) := by decide +kernel
theorem d_M_missedOf_19 : decode prog_14_method_53_code 19 = .ok (.isub, 1) := by decide +kernel
theorem d_M_missedOf_20 : decode prog_14_method_53_code 20 = .ok (.ireturn, 1) := by decide +kernel
noncomputable def F_M_missedOf : Sm := sRet (asV Value.int (o2 (fun x y => x - y) (cI (mV 12 D_M_greatestWant) [asV Value.ref (vR 0), asV Value.int (vI 1), asV Value.int (kI (ii 63)), asV Value.int (kI (ii (-1)))]) (cI (mV 12 D_M_wantAt) [asV Value.ref (vR 0), asV Value.int (vI 1), asV Value.int (aI 0 (gR 12 52 (vR 0)) (vI 1))])))
theorem mf_M_missedOf : Mf y_M_missedOf prog_14_method_53_code 2 (some .int) 1 := ⟨tw_1783, tw_134, by decide +kernel⟩
noncomputable def D_M_missedOf : Dn := runS [1, 1] F_M_missedOf
theorem ok_M_missedOf : MOK y_M_missedOf prog_14_method_53_code 2 (some .int) 2 0 0 D_M_missedOf := MOK.of (by decide) (by decide) (show SO Y_M_missedOf [(0, 1), (1, 1)] [(0, 1), (1, 1)] 0 21 (([], 0), ([], 0)) F_M_missedOf from
  (s_ret (p1 := 20) (e_isub (p1 := 8) (p2 := 19) (e_cI (p1 := 5) (a_cons (ι := Value.ref) (k0 := 1) (p1 := 1) (fun _ => rfl) (e_aload_n (k0 := 0) d_M_missedOf_0 rfl rfl) (a_cons (ι := Value.int) (k0 := 1) (p1 := 2) (fun _ => rfl) (e_iload_n (k0 := 1) d_M_missedOf_1 rfl rfl) (a_cons (ι := Value.int) (k0 := 1) (p1 := 4) (fun _ => rfl) (e_bipush d_M_missedOf_2 (by decide)) (a_cons (ι := Value.int) (k0 := 1) (p1 := 5) (fun _ => rfl) (e_iconst d_M_missedOf_4 (by decide)) a_nil)))) (k_virt ok_M_greatestWant mf_M_greatestWant ⟨tw_1767, tw_87⟩ rfl tw_1765 d_M_missedOf_5 (by decide) (by decide) (by decide))) (e_cI (p1 := 16) (a_cons (ι := Value.ref) (k0 := 1) (p1 := 9) (fun _ => rfl) (e_aload_n (k0 := 0) d_M_missedOf_8 rfl rfl) (a_cons (ι := Value.int) (k0 := 1) (p1 := 10) (fun _ => rfl) (e_iload_n (k0 := 1) d_M_missedOf_9 rfl rfl) (a_cons (ι := Value.int) (k0 := 1) (p1 := 16) (fun _ => rfl) (e_iald (p1 := 14) (p2 := 15) (e_gR (k0 := 52) (p1 := 11) cf_12 (e_aload_n (k0 := 0) d_M_missedOf_10 rfl rfl) (by decide) tw_1412 d_M_missedOf_11) (e_iload_n (k0 := 1) d_M_missedOf_14 rfl rfl) d_M_missedOf_15) a_nil))) (k_virt ok_M_wantAt mf_M_wantAt ⟨tw_1731, tw_79⟩ rfl tw_1729 d_M_missedOf_16 (by decide) (by decide) (by decide))) d_M_missedOf_19) rfl d_M_missedOf_20))
/-! BlinkerCrossModel.copies()V -/
abbrev y_M_copies : MethodName := ⟨"BlinkerCrossModel", "copies", "()V"⟩
abbrev Y_M_copies : Yt := (prog_14_method_54_code, 2, "BlinkerCrossModel", 3, none, "copies")
theorem d_M_copies_0 : decode prog_14_method_54_code 0 = .ok (.iconst 0, 1) := by decide +kernel
theorem d_M_copies_1 : decode prog_14_method_54_code 1 = .ok (.istore_n 1, 1) := by decide +kernel
theorem d_M_copies_2 : decode prog_14_method_54_code 2 = .ok (.iload_n 1, 1) := by decide +kernel
theorem d_M_copies_3 : decode prog_14_method_54_code 3 = .ok (.bipush 56, 2) := by decide +kernel
theorem d_M_copies_5 : decode prog_14_method_54_code 5 = .ok (.if_icmp .ge 21, 3) := by decide +kernel
theorem d_M_copies_8 : decode prog_14_method_54_code 8 = .ok (.aload_n 0, 1) := by decide +kernel
theorem d_M_copies_9 : decode prog_14_method_54_code 9 = .ok (.getfield 110, 3) := by decide +kernel
theorem d_M_copies_12 : decode prog_14_method_54_code 12 = .ok (.iload_n 1, 1) := by decide +kernel
theorem d_M_copies_13 : decode prog_14_method_54_code 13 = .ok (.aload_n 0, 1) := by decide +kernel
theorem d_M_copies_14 : decode prog_14_method_54_code 14 = .ok (.getfield 107, 3) := by decide +kernel
theorem d_M_copies_17 : decode prog_14_method_54_code 17 = .ok (.iload_n 1, 1) := by decide +kernel
theorem d_M_copies_18 : decode prog_14_method_54_code 18 = .ok (.iaload, 1) := by decide +kernel
theorem d_M_copies_19 : decode prog_14_method_54_code 19 = .ok (.iastore, 1) := by decide +kernel
theorem d_M_copies_20 : decode prog_14_method_54_code 20 = .ok (.iinc 1 1, 3) := by decide +kernel
theorem d_M_copies_23 : decode prog_14_method_54_code 23 = .ok (.goto (-21), 3) := by decide +kernel
theorem d_M_copies_26 : decode prog_14_method_54_code 26 = .ok (.aload_n 0, 1) := by decide +kernel
theorem d_M_copies_27 : decode prog_14_method_54_code 27 = .ok (.aload_n 0, 1) := by decide +kernel
theorem d_M_copies_28 : decode prog_14_method_54_code 28 = .ok (.getfield 67, 3) := by decide +kernel
theorem d_M_copies_31 : decode prog_14_method_54_code 31 = .ok (.aload_n 0, 1) := by decide +kernel
theorem d_M_copies_32 : decode prog_14_method_54_code 32 = .ok (.getfield 242, 3) := by decide +kernel
theorem d_M_copies_35 : decode prog_14_method_54_code 35 = .ok (.iaload, 1) := by decide +kernel
theorem d_M_copies_36 : decode prog_14_method_54_code 36 = .ok (.putfield 323, 3) := by decide +kernel
theorem d_M_copies_39 : decode prog_14_method_54_code 39 = .ok (.aload_n 0, 1) := by decide +kernel
theorem d_M_copies_40 : decode prog_14_method_54_code 40 = .ok (.iconst 0, 1) := by decide +kernel
theorem d_M_copies_41 : decode prog_14_method_54_code 41 = .ok (.putfield 326, 3) := by decide +kernel
theorem d_M_copies_44 : decode prog_14_method_54_code 44 = .ok (.aload_n 0, 1) := by decide +kernel
theorem d_M_copies_45 : decode prog_14_method_54_code 45 = .ok (.iconst (-1), 1) := by decide +kernel
theorem d_M_copies_46 : decode prog_14_method_54_code 46 = .ok (.putfield 329, 3) := by decide +kernel
theorem d_M_copies_49 : decode prog_14_method_54_code 49 = .ok (.aload_n 0, 1) := by decide +kernel
theorem d_M_copies_50 : decode prog_14_method_54_code 50 = .ok (.invokevirtual 354, 3) := by decide +kernel
theorem d_M_copies_53 : decode prog_14_method_54_code 53 = .ok (.return_, 1) := by decide +kernel
noncomputable def Lc_M_copies_1 : Xp Bool := o2 (fun x y => decide (x < y)) (vI 1) (kI (ii 56))
noncomputable def Lb_M_copies_1 : Sm := sAst 0 (gR 12 48 (vR 0)) (vI 1) (aI 0 (gR 12 47 (vR 0)) (vI 1))
noncomputable def Lu_M_copies_1 : Sm := sInc 1 (ii 1)
noncomputable def F_M_copies : Sm := sSeq (sBlk 1 (sSeq (sDecl (asV Value.int (kI (ii 0)))) (sWh (Lc_M_copies_1) (Lb_M_copies_1) Lu_M_copies_1))) (sSeq (sPut 12 49 (vR 0) (asV Value.int (aI 0 (gR 12 30 (vR 0)) (gI 12 18 (vR 0))))) (sSeq (sPutZ 12 50 (vR 0) (kI (ii 0))) (sSeq (sPut 12 51 (vR 0) (asV Value.int (kI (ii (-1))))) (sSeq (sCall (mV 12 D_M_fillsChoices) [asV Value.ref (vR 0)]) (sRetV)))))
theorem mf_M_copies : Mf y_M_copies prog_14_method_54_code 2 none 0 := ⟨tw_1708, tw_134, by decide +kernel⟩
noncomputable def D_M_copies : Dn := runS [1] F_M_copies
theorem ok_M_copies : MOK y_M_copies prog_14_method_54_code 2 none 3 0 0 D_M_copies := MOK.of (by decide) (by decide) (show SO Y_M_copies [(0, 1)] [(0, 1)] 0 54 (([], 0), ([], 0)) F_M_copies from
  (s_seq (sl1 := [(0, 1)]) (p1 := 26) (s_blk (sl1 := [(0, 1), (1, 1)]) (s_seq (sl1 := [(0, 1), (1, 1)]) (p1 := 2) (s_decl (p1 := 1) (e_iconst d_M_copies_0 (by decide)) (t_istore_n d_M_copies_1 rfl (by decide)) rfl) (s_for (pt := 8) (pu := 20) (pf := 26) (pg := 0) (c_icmp_geF (p1 := 3) (p2 := 5) (tg := 26) (e_iload_n (k0 := 1) d_M_copies_2 rfl rfl) (e_bipush d_M_copies_3 (by decide)) d_M_copies_5 rfl) (s_ast (p1 := 12) (p2 := 13) (p3 := 19) (e_gR (k0 := 48) (p1 := 9) cf_12 (e_aload_n (k0 := 0) d_M_copies_8 rfl rfl) (by decide) tw_1408 d_M_copies_9) (e_iload_n (k0 := 1) d_M_copies_12 rfl rfl) (e_iald (p1 := 17) (p2 := 18) (e_gR (k0 := 47) (p1 := 14) cf_12 (e_aload_n (k0 := 0) d_M_copies_13 rfl rfl) (by decide) tw_1407 d_M_copies_14) (e_iload_n (k0 := 1) d_M_copies_17 rfl rfl) d_M_copies_18) (as_i d_M_copies_19)) (s_goto (p1 := 23) (s_inc (k0 := 1) d_M_copies_20 rfl rfl (Nat.le_of_ble_eq_true rfl) rfl) d_M_copies_23 rfl))) rfl) (s_seq (sl1 := [(0, 1)]) (p1 := 39) (s_put (k0 := 49) (p1 := 27) (p2 := 36) cf_12 (e_aload_n (k0 := 0) d_M_copies_26 rfl rfl) (e_iald (p1 := 31) (p2 := 35) (e_gR (k0 := 30) (p1 := 28) cf_12 (e_aload_n (k0 := 0) d_M_copies_27 rfl rfl) (by decide) tw_1390 d_M_copies_28) (e_gI (k0 := 18) (p1 := 32) cf_12 (e_aload_n (k0 := 0) d_M_copies_31 rfl rfl) (by decide) tw_1378 d_M_copies_32) d_M_copies_35) (by decide) fk_i tw_1409 (Or.inl rfl) d_M_copies_36) (s_seq (sl1 := [(0, 1)]) (p1 := 44) (s_putZ (k0 := 50) (p1 := 40) (p2 := 41) cf_12 (e_aload_n (k0 := 0) d_M_copies_39 rfl rfl) (e_iconst d_M_copies_40 (by decide)) (by decide) rfl tw_1410 rfl d_M_copies_41) (s_seq (sl1 := [(0, 1)]) (p1 := 49) (s_put (k0 := 51) (p1 := 45) (p2 := 46) cf_12 (e_aload_n (k0 := 0) d_M_copies_44 rfl rfl) (e_iconst d_M_copies_45 (by decide)) (by decide) fk_i tw_1411 (Or.inl rfl) d_M_copies_46) (s_seq (sl1 := [(0, 1)]) (p1 := 53) (s_call (p1 := 50) (a_cons (ι := Value.ref) (k0 := 1) (p1 := 50) (fun _ => rfl) (e_aload_n (k0 := 0) d_M_copies_49 rfl rfl) a_nil) (k_virt ok_M_fillsChoices mf_M_fillsChoices ⟨tw_1711, tw_74⟩ rfl tw_1709 d_M_copies_50 (by decide) (by decide) (by decide))) (s_retV rfl d_M_copies_53)))))))
/-! BlinkerCrossModel.lawTells(II)I -/
abbrev y_M_lawTells : MethodName := ⟨"BlinkerCrossModel", "lawTells", "(II)I"⟩
abbrev Y_M_lawTells : Yt := (prog_14_method_56_code, 7, "BlinkerCrossModel", 1, (some .int), "lawTells")
theorem d_M_lawTells_0 : decode prog_14_method_56_code 0 = .ok (.iconst 4, 1) := by decide +kernel
theorem d_M_lawTells_1 : decode prog_14_method_56_code 1 = .ok (.aload_n 0, 1) := by decide +kernel
theorem d_M_lawTells_2 : decode prog_14_method_56_code 2 = .ok (.getfield 242, 3) := by decide +kernel
theorem d_M_lawTells_5 : decode prog_14_method_56_code 5 = .ok (.imul, 1) := by decide +kernel
theorem d_M_lawTells_6 : decode prog_14_method_56_code 6 = .ok (.iload_n 1, 1) := by decide +kernel
theorem d_M_lawTells_7 : decode prog_14_method_56_code 7 = .ok (.iadd, 1) := by decide +kernel
theorem d_M_lawTells_8 : decode prog_14_method_56_code 8 = .ok (.istore_n 3, 1) := by decide +kernel
theorem d_M_lawTells_9 : decode prog_14_method_56_code 9 = .ok (.aload_n 0, 1) := by decide +kernel
theorem d_M_lawTells_10 : decode prog_14_method_56_code 10 = .ok (.getfield 70, 3) := by decide +kernel
theorem d_M_lawTells_13 : decode prog_14_method_56_code 13 = .ok (.iload_n 3, 1) := by decide +kernel
theorem d_M_lawTells_14 : decode prog_14_method_56_code 14 = .ok (.iaload, 1) := by decide +kernel
theorem d_M_lawTells_15 : decode prog_14_method_56_code 15 = .ok (.aload_n 0, 1) := by decide +kernel
theorem d_M_lawTells_16 : decode prog_14_method_56_code 16 = .ok (.getfield 73, 3) := by decide +kernel
theorem d_M_lawTells_19 : decode prog_14_method_56_code 19 = .ok (.iload_n 3, 1) := by decide +kernel
theorem d_M_lawTells_20 : decode prog_14_method_56_code 20 = .ok (.iaload, 1) := by decide +kernel
theorem d_M_lawTells_21 : decode prog_14_method_56_code 21 = .ok (.if_icmp .ne 5, 3) := by decide +kernel
theorem d_M_lawTells_24 : decode prog_14_method_56_code 24 = .ok (.iload_n 2, 1) := by decide +kernel
theorem d_M_lawTells_25 : decode prog_14_method_56_code 25 = .ok (.ireturn, 1) := by decide +kernel
theorem d_M_lawTells_26 : decode prog_14_method_56_code 26 = .ok (.aload_n 0, 1) := by decide +kernel
theorem d_M_lawTells_27 : decode prog_14_method_56_code 27 = .ok (.iconst 0, 1) := by decide +kernel
theorem d_M_lawTells_28 : decode prog_14_method_56_code 28 = .ok (.putfield 315, 3) := by decide +kernel
theorem d_M_lawTells_31 : decode prog_14_method_56_code 31 = .ok (.aload_n 0, 1) := by decide +kernel
theorem d_M_lawTells_32 : decode prog_14_method_56_code 32 = .ok (.getfield 70, 3) := by decide +kernel
theorem d_M_lawTells_35 : decode prog_14_method_56_code 35 = .ok (.iload_n 3, 1) := by decide +kernel
theorem d_M_lawTells_36 : decode prog_14_method_56_code 36 = .ok (.iaload, 1) := by decide +kernel
theorem d_M_lawTells_37 : decode prog_14_method_56_code 37 = .ok (.istore 4, 2) := by decide +kernel
theorem d_M_lawTells_39 : decode prog_14_method_56_code 39 = .ok (.iload 4, 2) := by decide +kernel
theorem d_M_lawTells_41 : decode prog_14_method_56_code 41 = .ok (.aload_n 0, 1) := by decide +kernel
theorem d_M_lawTells_42 : decode prog_14_method_56_code 42 = .ok (.getfield 73, 3) := by decide +kernel
theorem d_M_lawTells_45 : decode prog_14_method_56_code 45 = .ok (.iload_n 3, 1) := by decide +kernel
theorem d_M_lawTells_46 : decode prog_14_method_56_code 46 = .ok (.iaload, 1) := by decide +kernel
theorem d_M_lawTells_47 : decode prog_14_method_56_code 47 = .ok (.if_icmp .ge 112, 3) := by decide +kernel
theorem d_M_lawTells_50 : decode prog_14_method_56_code 50 = .ok (.aload_n 0, 1) := by decide +kernel
theorem d_M_lawTells_51 : decode prog_14_method_56_code 51 = .ok (.getfield 76, 3) := by decide +kernel
theorem d_M_lawTells_54 : decode prog_14_method_56_code 54 = .ok (.iload 4, 2) := by decide +kernel
theorem d_M_lawTells_56 : decode prog_14_method_56_code 56 = .ok (.baload, 1) := by decide +kernel
theorem d_M_lawTells_57 : decode prog_14_method_56_code 57 = .ok (.ifCond .eq 62, 3) := by decide +kernel
theorem d_M_lawTells_60 : decode prog_14_method_56_code 60 = .ok (.aload_n 0, 1) := by decide +kernel
theorem d_M_lawTells_61 : decode prog_14_method_56_code 61 = .ok (.aload_n 0, 1) := by decide +kernel
theorem d_M_lawTells_62 : decode prog_14_method_56_code 62 = .ok (.getfield 80, 3) := by decide +kernel
theorem d_M_lawTells_65 : decode prog_14_method_56_code 65 = .ok (.iload 4, 2) := by decide +kernel
theorem d_M_lawTells_67 : decode prog_14_method_56_code 67 = .ok (.iaload, 1) := by decide +kernel
theorem d_M_lawTells_68 : decode prog_14_method_56_code 68 = .ok (.aload_n 0, 1) := by decide +kernel
theorem d_M_lawTells_69 : decode prog_14_method_56_code 69 = .ok (.getfield 83, 3) := by decide +kernel
theorem d_M_lawTells_72 : decode prog_14_method_56_code 72 = .ok (.iload 4, 2) := by decide +kernel
theorem d_M_lawTells_74 : decode prog_14_method_56_code 74 = .ok (.iaload, 1) := by decide +kernel
theorem d_M_lawTells_75 : decode prog_14_method_56_code 75 = .ok (.invokevirtual 360, 3) := by decide +kernel
theorem d_M_lawTells_78 : decode prog_14_method_56_code 78 = .ok (.istore 5, 2) := by decide +kernel
theorem d_M_lawTells_80 : decode prog_14_method_56_code 80 = .ok (.aload_n 0, 1) := by decide +kernel
theorem d_M_lawTells_81 : decode prog_14_method_56_code 81 = .ok (.aload_n 0, 1) := by decide +kernel
theorem d_M_lawTells_82 : decode prog_14_method_56_code 82 = .ok (.getfield 83, 3) := by decide +kernel
theorem d_M_lawTells_85 : decode prog_14_method_56_code 85 = .ok (.iload 4, 2) := by decide +kernel
theorem d_M_lawTells_87 : decode prog_14_method_56_code 87 = .ok (.iaload, 1) := by decide +kernel
theorem d_M_lawTells_88 : decode prog_14_method_56_code 88 = .ok (.aload_n 0, 1) := by decide +kernel
theorem d_M_lawTells_89 : decode prog_14_method_56_code 89 = .ok (.getfield 86, 3) := by decide +kernel
theorem d_M_lawTells_92 : decode prog_14_method_56_code 92 = .ok (.iload 4, 2) := by decide +kernel
theorem d_M_lawTells_94 : decode prog_14_method_56_code 94 = .ok (.iaload, 1) := by decide +kernel
theorem d_M_lawTells_95 : decode prog_14_method_56_code 95 = .ok (.invokevirtual 360, 3) := by decide +kernel
theorem d_M_lawTells_98 : decode prog_14_method_56_code 98 = .ok (.istore 6, 2) := by decide +kernel
theorem d_M_lawTells_100 : decode prog_14_method_56_code 100 = .ok (.aload_n 0, 1) := by decide +kernel
theorem d_M_lawTells_101 : decode prog_14_method_56_code 101 = .ok (.getfield 315, 3) := by decide +kernel
theorem d_M_lawTells_104 : decode prog_14_method_56_code 104 = .ok (.ifCond .eq 5, 3) := by decide +kernel
theorem d_M_lawTells_107 : decode prog_14_method_56_code 107 = .ok (.iconst 0, 1) := by decide +kernel
theorem d_M_lawTells_108 : decode prog_14_method_56_code 108 = .ok (.ireturn, 1) := by decide +kernel
theorem d_M_lawTells_109 : decode prog_14_method_56_code 109 = .ok (.iload 5, 2) := by decide +kernel
theorem d_M_lawTells_111 : decode prog_14_method_56_code 111 = .ok (.iload 6, 2) := by decide +kernel
theorem d_M_lawTells_113 : decode prog_14_method_56_code 113 = .ok (.if_icmp .lt 6, 3) := by decide +kernel
theorem d_M_lawTells_116 : decode prog_14_method_56_code 116 = .ok (.goto 37, 3) := by decide +kernel
theorem d_M_lawTells_119 : decode prog_14_method_56_code 119 = .ok (.aload_n 0, 1) := by decide +kernel
theorem d_M_lawTells_120 : decode prog_14_method_56_code 120 = .ok (.aload_n 0, 1) := by decide +kernel
theorem d_M_lawTells_121 : decode prog_14_method_56_code 121 = .ok (.getfield 86, 3) := by decide +kernel
theorem d_M_lawTells_124 : decode prog_14_method_56_code 124 = .ok (.iload 4, 2) := by decide +kernel
theorem d_M_lawTells_126 : decode prog_14_method_56_code 126 = .ok (.iaload, 1) := by decide +kernel
theorem d_M_lawTells_127 : decode prog_14_method_56_code 127 = .ok (.aload_n 0, 1) := by decide +kernel
theorem d_M_lawTells_128 : decode prog_14_method_56_code 128 = .ok (.getfield 89, 3) := by decide +kernel
theorem d_M_lawTells_131 : decode prog_14_method_56_code 131 = .ok (.iload 4, 2) := by decide +kernel
theorem d_M_lawTells_133 : decode prog_14_method_56_code 133 = .ok (.iaload, 1) := by decide +kernel
theorem d_M_lawTells_134 : decode prog_14_method_56_code 134 = .ok (.invokevirtual 360, 3) := by decide +kernel
theorem d_M_lawTells_137 : decode prog_14_method_56_code 137 = .ok (.istore 5, 2) := by decide +kernel
theorem d_M_lawTells_139 : decode prog_14_method_56_code 139 = .ok (.aload_n 0, 1) := by decide +kernel
theorem d_M_lawTells_140 : decode prog_14_method_56_code 140 = .ok (.getfield 315, 3) := by decide +kernel
theorem d_M_lawTells_143 : decode prog_14_method_56_code 143 = .ok (.ifCond .eq 7, 3) := by decide +kernel
theorem d_M_lawTells_146 : decode prog_14_method_56_code 146 = .ok (.iconst 0, 1) := by decide +kernel
theorem d_M_lawTells_147 : decode prog_14_method_56_code 147 = .ok (.goto 5, 3) := by decide +kernel
theorem d_M_lawTells_150 : decode prog_14_method_56_code 150 = .ok (.iload 5, 2) := by decide +kernel
theorem d_M_lawTells_152 : decode prog_14_method_56_code 152 = .ok (.ireturn, 1) := by decide +kernel
theorem d_M_lawTells_153 : decode prog_14_method_56_code 153 = .ok (.iinc 4 1, 3) := by decide +kernel
theorem d_M_lawTells_156 : decode prog_14_method_56_code 156 = .ok (.goto (-117), 3) := by decide +kernel
theorem d_M_lawTells_159 : decode prog_14_method_56_code 159 = .ok (.iconst 0, 1) := by decide +kernel
theorem d_M_lawTells_160 : decode prog_14_method_56_code 160 = .ok (.ireturn, 1) := by decide +kernel
noncomputable def Lc_M_lawTells_1 : Xp Bool := o2 (fun x y => decide (x < y)) (vI 4) (aI 0 (gR 12 32 (vR 0)) (vI 3))
noncomputable def Lb_M_lawTells_1 : Sm := sBlk 5 (sSeq (sIf (o1 (fun x => decide (x ≠ 0)) (aI 3 (gR 12 34 (vR 0)) (vI 4))) (sBlk 5 (sSeq (sDecl (asV Value.int (cI (mV 12 D_M_termOf) [asV Value.ref (vR 0), asV Value.int (aI 0 (gR 12 35 (vR 0)) (vI 4)), asV Value.int (aI 0 (gR 12 36 (vR 0)) (vI 4))]))) (sSeq (sDecl (asV Value.int (cI (mV 12 D_M_termOf) [asV Value.ref (vR 0), asV Value.int (aI 0 (gR 12 36 (vR 0)) (vI 4)), asV Value.int (aI 0 (gR 12 37 (vR 0)) (vI 4))]))) (sSeq (sIf (o1 (fun x => decide (x ≠ 0)) (gI 12 46 (vR 0))) (sRet (asV Value.int (kI (ii 0)))) (sSkip)) (sIf (o2 (fun x y => decide (x ≥ y)) (vI 5) (vI 6)) (sCnt 5) (sSkip)))))) (sSkip)) (sSeq (sDecl (asV Value.int (cI (mV 12 D_M_termOf) [asV Value.ref (vR 0), asV Value.int (aI 0 (gR 12 37 (vR 0)) (vI 4)), asV Value.int (aI 0 (gR 12 38 (vR 0)) (vI 4))]))) (sRet (asV Value.int (iX (o1 (fun x => decide (x ≠ 0)) (gI 12 46 (vR 0))) (kI (ii 0)) (vI 5))))))
noncomputable def Lu_M_lawTells_1 : Sm := sInc 4 (ii 1)
noncomputable def F_M_lawTells : Sm := sSeq (sDecl (asV Value.int (o2 (fun x y => x + y) (o2 (fun x y => x * y) (kI (ii 4)) (gI 12 18 (vR 0))) (vI 1)))) (sSeq (sIf (o2 (fun x y => decide (x = y)) (aI 0 (gR 12 31 (vR 0)) (vI 3)) (aI 0 (gR 12 32 (vR 0)) (vI 3))) (sRet (asV Value.int (vI 2))) (sSkip)) (sSeq (sPutZ 12 46 (vR 0) (kI (ii 0))) (sSeq (sBlk 4 (sSeq (sDecl (asV Value.int (aI 0 (gR 12 31 (vR 0)) (vI 3)))) (sWh (Lc_M_lawTells_1) (Lb_M_lawTells_1) Lu_M_lawTells_1))) (sRet (asV Value.int (kI (ii 0)))))))
theorem mf_M_lawTells : Mf y_M_lawTells prog_14_method_56_code 7 (some .int) 2 := ⟨tw_1772, tw_134, by decide +kernel⟩
noncomputable def D_M_lawTells : Dn := runS [1, 1, 1] F_M_lawTells
theorem ok_M_lawTells : MOK y_M_lawTells prog_14_method_56_code 7 (some .int) 1 0 0 D_M_lawTells := MOK.of (by decide) (by decide) (show SO Y_M_lawTells [(0, 1), (1, 1), (2, 1)] [(0, 1), (1, 1), (2, 1), (3, 1)] 0 161 (([], 0), ([], 0)) F_M_lawTells from
  (s_seq (sl1 := [(0, 1), (1, 1), (2, 1), (3, 1)]) (p1 := 9) (s_decl (p1 := 8) (e_iadd (p1 := 6) (p2 := 7) (e_imul (p1 := 1) (p2 := 5) (e_iconst d_M_lawTells_0 (by decide)) (e_gI (k0 := 18) (p1 := 2) cf_12 (e_aload_n (k0 := 0) d_M_lawTells_1 rfl rfl) (by decide) tw_1378 d_M_lawTells_2) d_M_lawTells_5) (e_iload_n (k0 := 1) d_M_lawTells_6 rfl rfl) d_M_lawTells_7) (t_istore_n d_M_lawTells_8 rfl (by decide)) rfl) (s_seq (sl1 := [(0, 1), (1, 1), (2, 1), (3, 1)]) (p1 := 26) (s_if (pt := 24) (pf := 26) (c_icmp_neF (p1 := 15) (p2 := 21) (tg := 26) (e_iald (p1 := 13) (p2 := 14) (e_gR (k0 := 31) (p1 := 10) cf_12 (e_aload_n (k0 := 0) d_M_lawTells_9 rfl rfl) (by decide) tw_1391 d_M_lawTells_10) (e_iload_n (k0 := 3) d_M_lawTells_13 rfl rfl) d_M_lawTells_14) (e_iald (p1 := 19) (p2 := 20) (e_gR (k0 := 32) (p1 := 16) cf_12 (e_aload_n (k0 := 0) d_M_lawTells_15 rfl rfl) (by decide) tw_1392 d_M_lawTells_16) (e_iload_n (k0 := 3) d_M_lawTells_19 rfl rfl) d_M_lawTells_20) d_M_lawTells_21 rfl) (s_ret (p1 := 25) (e_iload_n (k0 := 2) d_M_lawTells_24 rfl rfl) rfl d_M_lawTells_25) s_skip) (s_seq (sl1 := [(0, 1), (1, 1), (2, 1), (3, 1)]) (p1 := 31) (s_putZ (k0 := 46) (p1 := 27) (p2 := 28) cf_12 (e_aload_n (k0 := 0) d_M_lawTells_26 rfl rfl) (e_iconst d_M_lawTells_27 (by decide)) (by decide) rfl tw_1406 rfl d_M_lawTells_28) (s_seq (sl1 := [(0, 1), (1, 1), (2, 1), (3, 1)]) (p1 := 159) (s_blk (sl1 := [(0, 1), (1, 1), (2, 1), (3, 1), (4, 1)]) (s_seq (sl1 := [(0, 1), (1, 1), (2, 1), (3, 1), (4, 1)]) (p1 := 39) (s_decl (p1 := 37) (e_iald (p1 := 35) (p2 := 36) (e_gR (k0 := 31) (p1 := 32) cf_12 (e_aload_n (k0 := 0) d_M_lawTells_31 rfl rfl) (by decide) tw_1391 d_M_lawTells_32) (e_iload_n (k0 := 3) d_M_lawTells_35 rfl rfl) d_M_lawTells_36) (t_istore d_M_lawTells_37 (by decide)) rfl) (s_for (pt := 50) (pu := 153) (pf := 159) (pg := 0) (c_icmp_geF (p1 := 41) (p2 := 47) (tg := 159) (e_iload (k0 := 4) d_M_lawTells_39 rfl) (e_iald (p1 := 45) (p2 := 46) (e_gR (k0 := 32) (p1 := 42) cf_12 (e_aload_n (k0 := 0) d_M_lawTells_41 rfl rfl) (by decide) tw_1392 d_M_lawTells_42) (e_iload_n (k0 := 3) d_M_lawTells_45 rfl rfl) d_M_lawTells_46) d_M_lawTells_47 rfl) (s_blk (sl1 := [(0, 1), (1, 1), (2, 1), (3, 1), (4, 1), (5, 1)]) (s_seq (sl1 := [(0, 1), (1, 1), (2, 1), (3, 1), (4, 1)]) (p1 := 119) (s_if (pt := 60) (pf := 119) (c_if_eqF (p1 := 57) (tg := 119) (e_zald (p1 := 54) (p2 := 56) (e_gR (k0 := 34) (p1 := 51) cf_12 (e_aload_n (k0 := 0) d_M_lawTells_50 rfl rfl) (by decide) tw_1394 d_M_lawTells_51) (e_iload (k0 := 4) d_M_lawTells_54 rfl) d_M_lawTells_56) d_M_lawTells_57 rfl) (s_blk (sl1 := [(0, 1), (1, 1), (2, 1), (3, 1), (4, 1), (5, 1), (6, 1)]) (s_seq (sl1 := [(0, 1), (1, 1), (2, 1), (3, 1), (4, 1), (5, 1)]) (p1 := 80) (s_decl (p1 := 78) (e_cI (p1 := 75) (a_cons (ι := Value.ref) (k0 := 1) (p1 := 61) (fun _ => rfl) (e_aload_n (k0 := 0) d_M_lawTells_60 rfl rfl) (a_cons (ι := Value.int) (k0 := 1) (p1 := 68) (fun _ => rfl) (e_iald (p1 := 65) (p2 := 67) (e_gR (k0 := 35) (p1 := 62) cf_12 (e_aload_n (k0 := 0) d_M_lawTells_61 rfl rfl) (by decide) tw_1395 d_M_lawTells_62) (e_iload (k0 := 4) d_M_lawTells_65 rfl) d_M_lawTells_67) (a_cons (ι := Value.int) (k0 := 1) (p1 := 75) (fun _ => rfl) (e_iald (p1 := 72) (p2 := 74) (e_gR (k0 := 36) (p1 := 69) cf_12 (e_aload_n (k0 := 0) d_M_lawTells_68 rfl rfl) (by decide) tw_1396 d_M_lawTells_69) (e_iload (k0 := 4) d_M_lawTells_72 rfl) d_M_lawTells_74) a_nil))) (k_virt ok_M_termOf mf_M_termOf ⟨tw_1775, tw_89⟩ rfl tw_1773 d_M_lawTells_75 (by decide) (by decide) (by decide))) (t_istore d_M_lawTells_78 (by decide)) rfl) (s_seq (sl1 := [(0, 1), (1, 1), (2, 1), (3, 1), (4, 1), (5, 1), (6, 1)]) (p1 := 100) (s_decl (p1 := 98) (e_cI (p1 := 95) (a_cons (ι := Value.ref) (k0 := 1) (p1 := 81) (fun _ => rfl) (e_aload_n (k0 := 0) d_M_lawTells_80 rfl rfl) (a_cons (ι := Value.int) (k0 := 1) (p1 := 88) (fun _ => rfl) (e_iald (p1 := 85) (p2 := 87) (e_gR (k0 := 36) (p1 := 82) cf_12 (e_aload_n (k0 := 0) d_M_lawTells_81 rfl rfl) (by decide) tw_1396 d_M_lawTells_82) (e_iload (k0 := 4) d_M_lawTells_85 rfl) d_M_lawTells_87) (a_cons (ι := Value.int) (k0 := 1) (p1 := 95) (fun _ => rfl) (e_iald (p1 := 92) (p2 := 94) (e_gR (k0 := 37) (p1 := 89) cf_12 (e_aload_n (k0 := 0) d_M_lawTells_88 rfl rfl) (by decide) tw_1397 d_M_lawTells_89) (e_iload (k0 := 4) d_M_lawTells_92 rfl) d_M_lawTells_94) a_nil))) (k_virt ok_M_termOf mf_M_termOf ⟨tw_1775, tw_89⟩ rfl tw_1773 d_M_lawTells_95 (by decide) (by decide) (by decide))) (t_istore d_M_lawTells_98 (by decide)) rfl) (s_seq (sl1 := [(0, 1), (1, 1), (2, 1), (3, 1), (4, 1), (5, 1), (6, 1)]) (p1 := 109) (s_if (pt := 107) (pf := 109) (c_if_eqF (p1 := 104) (tg := 109) (e_gI (k0 := 46) (p1 := 101) cf_12 (e_aload_n (k0 := 0) d_M_lawTells_100 rfl rfl) (by decide) tw_1406 d_M_lawTells_101) d_M_lawTells_104 rfl) (s_ret (p1 := 108) (e_iconst d_M_lawTells_107 (by decide)) rfl d_M_lawTells_108) s_skip) (s_if (pt := 116) (pf := 119) (c_icmp_ltF (p1 := 111) (p2 := 113) (tg := 119) (e_iload (k0 := 5) d_M_lawTells_109 rfl) (e_iload (k0 := 6) d_M_lawTells_111 rfl) d_M_lawTells_113 rfl) (s_ahead (p2 := 153) d_M_lawTells_116 rfl (s_cnt rfl)) s_skip)))) rfl) s_skip) (s_seq (sl1 := [(0, 1), (1, 1), (2, 1), (3, 1), (4, 1), (5, 1)]) (p1 := 139) (s_decl (p1 := 137) (e_cI (p1 := 134) (a_cons (ι := Value.ref) (k0 := 1) (p1 := 120) (fun _ => rfl) (e_aload_n (k0 := 0) d_M_lawTells_119 rfl rfl) (a_cons (ι := Value.int) (k0 := 1) (p1 := 127) (fun _ => rfl) (e_iald (p1 := 124) (p2 := 126) (e_gR (k0 := 37) (p1 := 121) cf_12 (e_aload_n (k0 := 0) d_M_lawTells_120 rfl rfl) (by decide) tw_1397 d_M_lawTells_121) (e_iload (k0 := 4) d_M_lawTells_124 rfl) d_M_lawTells_126) (a_cons (ι := Value.int) (k0 := 1) (p1 := 134) (fun _ => rfl) (e_iald (p1 := 131) (p2 := 133) (e_gR (k0 := 38) (p1 := 128) cf_12 (e_aload_n (k0 := 0) d_M_lawTells_127 rfl rfl) (by decide) tw_1398 d_M_lawTells_128) (e_iload (k0 := 4) d_M_lawTells_131 rfl) d_M_lawTells_133) a_nil))) (k_virt ok_M_termOf mf_M_termOf ⟨tw_1775, tw_89⟩ rfl tw_1773 d_M_lawTells_134 (by decide) (by decide) (by decide))) (t_istore d_M_lawTells_137 (by decide)) rfl) (s_ret (p1 := 152) (e_ite (pt := 146) (p1 := 147) (pf := 150) (c_if_eqF (p1 := 143) (tg := 150) (e_gI (k0 := 46) (p1 := 140) cf_12 (e_aload_n (k0 := 0) d_M_lawTells_139 rfl rfl) (by decide) tw_1406 d_M_lawTells_140) d_M_lawTells_143 rfl) (e_iconst d_M_lawTells_146 (by decide)) d_M_lawTells_147 rfl (e_iload (k0 := 5) d_M_lawTells_150 rfl)) rfl d_M_lawTells_152))) rfl) (s_goto (p1 := 156) (s_inc (k0 := 4) d_M_lawTells_153 rfl rfl (Nat.le_of_ble_eq_true rfl) rfl) d_M_lawTells_156 rfl))) rfl) (s_ret (p1 := 160) (e_iconst d_M_lawTells_159 (by decide)) rfl d_M_lawTells_160))))))
/-! BlinkerCrossModel.looks(III)V -/
abbrev y_M_looks : MethodName := ⟨"BlinkerCrossModel", "looks", "(III)V"⟩
abbrev Y_M_looks : Yt := (prog_14_method_57_code, 4, "BlinkerCrossModel", 1, none, "looks")
theorem d_M_looks_0 : decode prog_14_method_57_code 0 = .ok (.aload_n 0, 1) := by decide +kernel
theorem d_M_looks_1 : decode prog_14_method_57_code 1 = .ok (.getfield 101, 3) := by decide +kernel
theorem d_M_looks_4 : decode prog_14_method_57_code 4 = .ok (.iconst 0, 1) := by decide +kernel
theorem d_M_looks_5 : decode prog_14_method_57_code 5 = .ok (.aload_n 0, 1) := by decide +kernel
theorem d_M_looks_6 : decode prog_14_method_57_code 6 = .ok (.iload_n 1, 1) := by decide +kernel
theorem d_M_looks_7 : decode prog_14_method_57_code 7 = .ok (.invokevirtual 336, 3) := by decide +kernel
theorem d_M_looks_10 : decode prog_14_method_57_code 10 = .ok (.iastore, 1) := by decide +kernel
theorem d_M_looks_11 : decode prog_14_method_57_code 11 = .ok (.aload_n 0, 1) := by decide +kernel
theorem d_M_looks_12 : decode prog_14_method_57_code 12 = .ok (.getfield 101, 3) := by decide +kernel
theorem d_M_looks_15 : decode prog_14_method_57_code 15 = .ok (.iconst 1, 1) := by decide +kernel
theorem d_M_looks_16 : decode prog_14_method_57_code 16 = .ok (.aload_n 0, 1) := by decide +kernel
theorem d_M_looks_17 : decode prog_14_method_57_code 17 = .ok (.iload_n 1, 1) := by decide +kernel
theorem d_M_looks_18 : decode prog_14_method_57_code 18 = .ok (.iload_n 2, 1) := by decide +kernel
theorem d_M_looks_19 : decode prog_14_method_57_code 19 = .ok (.invokevirtual 342, 3) := by decide +kernel
theorem d_M_looks_22 : decode prog_14_method_57_code 22 = .ok (.iastore, 1) := by decide +kernel
theorem d_M_looks_23 : decode prog_14_method_57_code 23 = .ok (.aload_n 0, 1) := by decide +kernel
theorem d_M_looks_24 : decode prog_14_method_57_code 24 = .ok (.getfield 101, 3) := by decide +kernel
theorem d_M_looks_27 : decode prog_14_method_57_code 27 = .ok (.iconst 2, 1) := by decide +kernel
theorem d_M_looks_28 : decode prog_14_method_57_code 28 = .ok (.iconst 0, 1) := by decide +kernel
theorem d_M_looks_29 : decode prog_14_method_57_code 29 = .ok (.iastore, 1) := by decide +kernel
theorem d_M_looks_30 : decode prog_14_method_57_code 30 = .ok (.aload_n 0, 1) := by decide +kernel
theorem d_M_looks_31 : decode prog_14_method_57_code 31 = .ok (.getfield 101, 3) := by decide +kernel
theorem d_M_looks_34 : decode prog_14_method_57_code 34 = .ok (.iconst 3, 1) := by decide +kernel
theorem d_M_looks_35 : decode prog_14_method_57_code 35 = .ok (.aload_n 0, 1) := by decide +kernel
theorem d_M_looks_36 : decode prog_14_method_57_code 36 = .ok (.getfield 49, 3) := by decide +kernel
theorem d_M_looks_39 : decode prog_14_method_57_code 39 = .ok (.bipush 6, 2) := by decide +kernel
theorem d_M_looks_41 : decode prog_14_method_57_code 41 = .ok (.aload_n 0, 1) := by decide +kernel
theorem d_M_looks_42 : decode prog_14_method_57_code 42 = .ok (.getfield 242, 3) := by decide +kernel
theorem d_M_looks_45 : decode prog_14_method_57_code 45 = .ok (.imul, 1) := by decide +kernel
theorem d_M_looks_46 : decode prog_14_method_57_code 46 = .ok (.iload_n 2, 1) := by decide +kernel
theorem d_M_looks_47 : decode prog_14_method_57_code 47 = .ok (.iadd, 1) := by decide +kernel
theorem d_M_looks_48 : decode prog_14_method_57_code 48 = .ok (.iaload, 1) := by decide +kernel
theorem d_M_looks_49 : decode prog_14_method_57_code 49 = .ok (.iastore, 1) := by decide +kernel
theorem d_M_looks_50 : decode prog_14_method_57_code 50 = .ok (.aload_n 0, 1) := by decide +kernel
theorem d_M_looks_51 : decode prog_14_method_57_code 51 = .ok (.getfield 101, 3) := by decide +kernel
theorem d_M_looks_54 : decode prog_14_method_57_code 54 = .ok (.iconst 4, 1) := by decide +kernel
theorem d_M_looks_55 : decode prog_14_method_57_code 55 = .ok (.iload_n 3, 1) := by decide +kernel
theorem d_M_looks_56 : decode prog_14_method_57_code 56 = .ok (.iastore, 1) := by decide +kernel
theorem d_M_looks_57 : decode prog_14_method_57_code 57 = .ok (.aload_n 0, 1) := by decide +kernel
theorem d_M_looks_58 : decode prog_14_method_57_code 58 = .ok (.getfield 101, 3) := by decide +kernel
theorem d_M_looks_61 : decode prog_14_method_57_code 61 = .ok (.iconst 5, 1) := by decide +kernel
theorem d_M_looks_62 : decode prog_14_method_57_code 62 = .ok (.aload_n 0, 1) := by decide +kernel
theorem d_M_looks_63 : decode prog_14_method_57_code 63 = .ok (.getfield 110, 3) := by decide +kernel
theorem d_M_looks_66 : decode prog_14_method_57_code 66 = .ok (.bipush 55, 2) := by decide +kernel
theorem d_M_looks_68 : decode prog_14_method_57_code 68 = .ok (.iaload, 1) := by decide +kernel
theorem d_M_looks_69 : decode prog_14_method_57_code 69 = .ok (.iastore, 1) := by decide +kernel
theorem d_M_looks_70 : decode prog_14_method_57_code 70 = .ok (.aload_n 0, 1) := by decide +kernel
theorem d_M_looks_71 : decode prog_14_method_57_code 71 = .ok (.getfield 101, 3) := by decide +kernel
theorem d_M_looks_74 : decode prog_14_method_57_code 74 = .ok (.bipush 6, 2) := by decide +kernel
theorem d_M_looks_76 : decode prog_14_method_57_code 76 = .ok (.iload_n 1, 1) := by decide +kernel
theorem d_M_looks_77 : decode prog_14_method_57_code 77 = .ok (.iastore, 1) := by decide +kernel
theorem d_M_looks_78 : decode prog_14_method_57_code 78 = .ok (.aload_n 0, 1) := by decide +kernel
theorem d_M_looks_79 : decode prog_14_method_57_code 79 = .ok (.getfield 101, 3) := by decide +kernel
theorem d_M_looks_82 : decode prog_14_method_57_code 82 = .ok (.bipush 7, 2) := by decide +kernel
theorem d_M_looks_84 : decode prog_14_method_57_code 84 = .ok (.aload_n 0, 1) := by decide +kernel
theorem d_M_looks_85 : decode prog_14_method_57_code 85 = .ok (.getfield 110, 3) := by decide +kernel
theorem d_M_looks_88 : decode prog_14_method_57_code 88 = .ok (.bipush 15, 2) := by decide +kernel
theorem d_M_looks_90 : decode prog_14_method_57_code 90 = .ok (.iload_n 1, 1) := by decide +kernel
theorem d_M_looks_91 : decode prog_14_method_57_code 91 = .ok (.iadd, 1) := by decide +kernel
theorem d_M_looks_92 : decode prog_14_method_57_code 92 = .ok (.iaload, 1) := by decide +kernel
theorem d_M_looks_93 : decode prog_14_method_57_code 93 = .ok (.iastore, 1) := by decide +kernel
theorem d_M_looks_94 : decode prog_14_method_57_code 94 = .ok (.aload_n 0, 1) := by decide +kernel
theorem d_M_looks_95 : decode prog_14_method_57_code 95 = .ok (.getfield 101, 3) := by decide +kernel
theorem d_M_looks_98 : decode prog_14_method_57_code 98 = .ok (.bipush 8, 2) := by decide +kernel
theorem d_M_looks_100 : decode prog_14_method_57_code 100 = .ok (.aload_n 0, 1) := by decide +kernel
theorem d_M_looks_101 : decode prog_14_method_57_code 101 = .ok (.getfield 46, 3) := by decide +kernel
theorem d_M_looks_104 : decode prog_14_method_57_code 104 = .ok (.aload_n 0, 1) := by decide +kernel
theorem d_M_looks_105 : decode prog_14_method_57_code 105 = .ok (.getfield 242, 3) := by decide +kernel
theorem d_M_looks_108 : decode prog_14_method_57_code 108 = .ok (.iaload, 1) := by decide +kernel
theorem d_M_looks_109 : decode prog_14_method_57_code 109 = .ok (.iastore, 1) := by decide +kernel
theorem d_M_looks_110 : decode prog_14_method_57_code 110 = .ok (.return_, 1) := by decide +kernel
noncomputable def F_M_looks : Sm := sSeq (sAst 0 (gR 12 44 (vR 0)) (kI (ii 0)) (cI (mV 12 D_M_seesMany) [asV Value.ref (vR 0), asV Value.int (vI 1)])) (sSeq (sAst 0 (gR 12 44 (vR 0)) (kI (ii 1)) (cI (mV 12 D_M_wantAt) [asV Value.ref (vR 0), asV Value.int (vI 1), asV Value.int (vI 2)])) (sSeq (sAst 0 (gR 12 44 (vR 0)) (kI (ii 2)) (kI (ii 0))) (sSeq (sAst 0 (gR 12 44 (vR 0)) (kI (ii 3)) (aI 0 (gR 12 24 (vR 0)) (o2 (fun x y => x + y) (o2 (fun x y => x * y) (kI (ii 6)) (gI 12 18 (vR 0))) (vI 2)))) (sSeq (sAst 0 (gR 12 44 (vR 0)) (kI (ii 4)) (vI 3)) (sSeq (sAst 0 (gR 12 44 (vR 0)) (kI (ii 5)) (aI 0 (gR 12 48 (vR 0)) (kI (ii 55)))) (sSeq (sAst 0 (gR 12 44 (vR 0)) (kI (ii 6)) (vI 1)) (sSeq (sAst 0 (gR 12 44 (vR 0)) (kI (ii 7)) (aI 0 (gR 12 48 (vR 0)) (o2 (fun x y => x + y) (kI (ii 15)) (vI 1)))) (sSeq (sAst 0 (gR 12 44 (vR 0)) (kI (ii 8)) (aI 0 (gR 12 23 (vR 0)) (gI 12 18 (vR 0)))) (sRetV)))))))))
theorem mf_M_looks : Mf y_M_looks prog_14_method_57_code 4 none 3 := ⟨tw_1764, tw_134, by decide +kernel⟩
noncomputable def D_M_looks : Dn := runS [1, 1, 1, 1] F_M_looks
theorem ok_M_looks : MOK y_M_looks prog_14_method_57_code 4 none 1 0 0 D_M_looks := MOK.of (by decide) (by decide) (show SO Y_M_looks [(0, 1), (1, 1), (2, 1), (3, 1)] [(0, 1), (1, 1), (2, 1), (3, 1)] 0 111 (([], 0), ([], 0)) F_M_looks from
  (s_seq (sl1 := [(0, 1), (1, 1), (2, 1), (3, 1)]) (p1 := 11) (s_ast (p1 := 4) (p2 := 5) (p3 := 10) (e_gR (k0 := 44) (p1 := 1) cf_12 (e_aload_n (k0 := 0) d_M_looks_0 rfl rfl) (by decide) tw_1404 d_M_looks_1) (e_iconst d_M_looks_4 (by decide)) (e_cI (p1 := 7) (a_cons (ι := Value.ref) (k0 := 1) (p1 := 6) (fun _ => rfl) (e_aload_n (k0 := 0) d_M_looks_5 rfl rfl) (a_cons (ι := Value.int) (k0 := 1) (p1 := 7) (fun _ => rfl) (e_iload_n (k0 := 1) d_M_looks_6 rfl rfl) a_nil)) (k_virt ok_M_seesMany mf_M_seesMany ⟨tw_1723, tw_77⟩ rfl tw_1721 d_M_looks_7 (by decide) (by decide) (by decide))) (as_i d_M_looks_10)) (s_seq (sl1 := [(0, 1), (1, 1), (2, 1), (3, 1)]) (p1 := 23) (s_ast (p1 := 15) (p2 := 16) (p3 := 22) (e_gR (k0 := 44) (p1 := 12) cf_12 (e_aload_n (k0 := 0) d_M_looks_11 rfl rfl) (by decide) tw_1404 d_M_looks_12) (e_iconst d_M_looks_15 (by decide)) (e_cI (p1 := 19) (a_cons (ι := Value.ref) (k0 := 1) (p1 := 17) (fun _ => rfl) (e_aload_n (k0 := 0) d_M_looks_16 rfl rfl) (a_cons (ι := Value.int) (k0 := 1) (p1 := 18) (fun _ => rfl) (e_iload_n (k0 := 1) d_M_looks_17 rfl rfl) (a_cons (ι := Value.int) (k0 := 1) (p1 := 19) (fun _ => rfl) (e_iload_n (k0 := 2) d_M_looks_18 rfl rfl) a_nil))) (k_virt ok_M_wantAt mf_M_wantAt ⟨tw_1731, tw_79⟩ rfl tw_1729 d_M_looks_19 (by decide) (by decide) (by decide))) (as_i d_M_looks_22)) (s_seq (sl1 := [(0, 1), (1, 1), (2, 1), (3, 1)]) (p1 := 30) (s_ast (p1 := 27) (p2 := 28) (p3 := 29) (e_gR (k0 := 44) (p1 := 24) cf_12 (e_aload_n (k0 := 0) d_M_looks_23 rfl rfl) (by decide) tw_1404 d_M_looks_24) (e_iconst d_M_looks_27 (by decide)) (e_iconst d_M_looks_28 (by decide)) (as_i d_M_looks_29)) (s_seq (sl1 := [(0, 1), (1, 1), (2, 1), (3, 1)]) (p1 := 50) (s_ast (p1 := 34) (p2 := 35) (p3 := 49) (e_gR (k0 := 44) (p1 := 31) cf_12 (e_aload_n (k0 := 0) d_M_looks_30 rfl rfl) (by decide) tw_1404 d_M_looks_31) (e_iconst d_M_looks_34 (by decide)) (e_iald (p1 := 39) (p2 := 48) (e_gR (k0 := 24) (p1 := 36) cf_12 (e_aload_n (k0 := 0) d_M_looks_35 rfl rfl) (by decide) tw_1384 d_M_looks_36) (e_iadd (p1 := 46) (p2 := 47) (e_imul (p1 := 41) (p2 := 45) (e_bipush d_M_looks_39 (by decide)) (e_gI (k0 := 18) (p1 := 42) cf_12 (e_aload_n (k0 := 0) d_M_looks_41 rfl rfl) (by decide) tw_1378 d_M_looks_42) d_M_looks_45) (e_iload_n (k0 := 2) d_M_looks_46 rfl rfl) d_M_looks_47) d_M_looks_48) (as_i d_M_looks_49)) (s_seq (sl1 := [(0, 1), (1, 1), (2, 1), (3, 1)]) (p1 := 57) (s_ast (p1 := 54) (p2 := 55) (p3 := 56) (e_gR (k0 := 44) (p1 := 51) cf_12 (e_aload_n (k0 := 0) d_M_looks_50 rfl rfl) (by decide) tw_1404 d_M_looks_51) (e_iconst d_M_looks_54 (by decide)) (e_iload_n (k0 := 3) d_M_looks_55 rfl rfl) (as_i d_M_looks_56)) (s_seq (sl1 := [(0, 1), (1, 1), (2, 1), (3, 1)]) (p1 := 70) (s_ast (p1 := 61) (p2 := 62) (p3 := 69) (e_gR (k0 := 44) (p1 := 58) cf_12 (e_aload_n (k0 := 0) d_M_looks_57 rfl rfl) (by decide) tw_1404 d_M_looks_58) (e_iconst d_M_looks_61 (by decide)) (e_iald (p1 := 66) (p2 := 68) (e_gR (k0 := 48) (p1 := 63) cf_12 (e_aload_n (k0 := 0) d_M_looks_62 rfl rfl) (by decide) tw_1408 d_M_looks_63) (e_bipush d_M_looks_66 (by decide)) d_M_looks_68) (as_i d_M_looks_69)) (s_seq (sl1 := [(0, 1), (1, 1), (2, 1), (3, 1)]) (p1 := 78) (s_ast (p1 := 74) (p2 := 76) (p3 := 77) (e_gR (k0 := 44) (p1 := 71) cf_12 (e_aload_n (k0 := 0) d_M_looks_70 rfl rfl) (by decide) tw_1404 d_M_looks_71) (e_bipush d_M_looks_74 (by decide)) (e_iload_n (k0 := 1) d_M_looks_76 rfl rfl) (as_i d_M_looks_77)) (s_seq (sl1 := [(0, 1), (1, 1), (2, 1), (3, 1)]) (p1 := 94) (s_ast (p1 := 82) (p2 := 84) (p3 := 93) (e_gR (k0 := 44) (p1 := 79) cf_12 (e_aload_n (k0 := 0) d_M_looks_78 rfl rfl) (by decide) tw_1404 d_M_looks_79) (e_bipush d_M_looks_82 (by decide)) (e_iald (p1 := 88) (p2 := 92) (e_gR (k0 := 48) (p1 := 85) cf_12 (e_aload_n (k0 := 0) d_M_looks_84 rfl rfl) (by decide) tw_1408 d_M_looks_85) (e_iadd (p1 := 90) (p2 := 91) (e_bipush d_M_looks_88 (by decide)) (e_iload_n (k0 := 1) d_M_looks_90 rfl rfl) d_M_looks_91) d_M_looks_92) (as_i d_M_looks_93)) (s_seq (sl1 := [(0, 1), (1, 1), (2, 1), (3, 1)]) (p1 := 110) (s_ast (p1 := 98) (p2 := 100) (p3 := 109) (e_gR (k0 := 44) (p1 := 95) cf_12 (e_aload_n (k0 := 0) d_M_looks_94 rfl rfl) (by decide) tw_1404 d_M_looks_95) (e_bipush d_M_looks_98 (by decide)) (e_iald (p1 := 104) (p2 := 108) (e_gR (k0 := 23) (p1 := 101) cf_12 (e_aload_n (k0 := 0) d_M_looks_100 rfl rfl) (by decide) tw_1383 d_M_looks_101) (e_gI (k0 := 18) (p1 := 105) cf_12 (e_aload_n (k0 := 0) d_M_looks_104 rfl rfl) (by decide) tw_1378 d_M_looks_105) d_M_looks_108) (as_i d_M_looks_109)) (s_retV rfl d_M_looks_110)))))))))))
/-! BlinkerCrossModel.looksBy(I)V -/
abbrev y_M_looksBy : MethodName := ⟨"BlinkerCrossModel", "looksBy", "(I)V"⟩
abbrev Y_M_looksBy : Yt := (prog_14_method_58_code, 3, "BlinkerCrossModel", 2, none, "looksBy")
theorem d_M_looksBy_0 : decode prog_14_method_58_code 0 = .ok (.aload_n 0, 1) := by decide +kernel
theorem d_M_looksBy_1 : decode prog_14_method_58_code 1 = .ok (.getfield 113, 3) := by decide +kernel
theorem d_M_looksBy_4 : decode prog_14_method_58_code 4 = .ok (.iload_n 1, 1) := by decide +kernel
theorem d_M_looksBy_5 : decode prog_14_method_58_code 5 = .ok (.iaload, 1) := by decide +kernel
theorem d_M_looksBy_6 : decode prog_14_method_58_code 6 = .ok (.istore_n 2, 1) := by decide +kernel
theorem d_M_looksBy_7 : decode prog_14_method_58_code 7 = .ok (.aload_n 0, 1) := by decide +kernel
theorem d_M_looksBy_8 : decode prog_14_method_58_code 8 = .ok (.iload_n 1, 1) := by decide +kernel
theorem d_M_looksBy_9 : decode prog_14_method_58_code 9 = .ok (.iload_n 2, 1) := by decide +kernel
theorem d_M_looksBy_10 : decode prog_14_method_58_code 10 = .ok (.aload_n 0, 1) := by decide +kernel
theorem d_M_looksBy_11 : decode prog_14_method_58_code 11 = .ok (.iload_n 2, 1) := by decide +kernel
theorem d_M_looksBy_12 : decode prog_14_method_58_code 12 = .ok (.invokevirtual 363, 3) := by decide +kernel
theorem d_M_looksBy_15 : decode prog_14_method_58_code 15 = .ok (.invokevirtual 366, 3) := by decide +kernel
theorem d_M_looksBy_18 : decode prog_14_method_58_code 18 = .ok (.aload_n 0, 1) := by decide +kernel
theorem d_M_looksBy_19 : decode prog_14_method_58_code 19 = .ok (.getfield 101, 3) := by decide +kernel
theorem d_M_looksBy_22 : decode prog_14_method_58_code 22 = .ok (.iconst 2, 1) := by decide +kernel
theorem d_M_looksBy_23 : decode prog_14_method_58_code 23 = .ok (.aload_n 0, 1) := by decide +kernel
theorem d_M_looksBy_24 : decode prog_14_method_58_code 24 = .ok (.iload_n 1, 1) := by decide +kernel
theorem d_M_looksBy_25 : decode prog_14_method_58_code 25 = .ok (.aload_n 0, 1) := by decide +kernel
theorem d_M_looksBy_26 : decode prog_14_method_58_code 26 = .ok (.iload_n 1, 1) := by decide +kernel
theorem d_M_looksBy_27 : decode prog_14_method_58_code 27 = .ok (.invokevirtual 370, 3) := by decide +kernel
theorem d_M_looksBy_30 : decode prog_14_method_58_code 30 = .ok (.iload_n 2, 1) := by decide +kernel
theorem d_M_looksBy_31 : decode prog_14_method_58_code 31 = .ok (.invokevirtual 351, 3) := by decide +kernel
theorem d_M_looksBy_34 : decode prog_14_method_58_code 34 = .ok (.iastore, 1) := by decide +kernel
theorem d_M_looksBy_35 : decode prog_14_method_58_code 35 = .ok (.return_, 1) := by decide +kernel
noncomputable def F_M_looksBy : Sm := sSeq (sDecl (asV Value.int (aI 0 (gR 12 52 (vR 0)) (vI 1)))) (sSeq (sCall (mV 12 D_M_looks) [asV Value.ref (vR 0), asV Value.int (vI 1), asV Value.int (vI 2), asV Value.int (cI (mV 12 D_M_choosing) [asV Value.ref (vR 0), asV Value.int (vI 2)])]) (sSeq (sAst 0 (gR 12 44 (vR 0)) (kI (ii 2)) (cI (mV 12 D_M_greatestWant) [asV Value.ref (vR 0), asV Value.int (vI 1), asV Value.int (cI (mV 12 D_M_seenBits) [asV Value.ref (vR 0), asV Value.int (vI 1)]), asV Value.int (vI 2)])) (sRetV)))
theorem mf_M_looksBy : Mf y_M_looksBy prog_14_method_58_code 3 none 1 := ⟨tw_1760, tw_134, by decide +kernel⟩
noncomputable def D_M_looksBy : Dn := runS [1, 1] F_M_looksBy
theorem ok_M_looksBy : MOK y_M_looksBy prog_14_method_58_code 3 none 2 0 0 D_M_looksBy := MOK.of (by decide) (by decide) (show SO Y_M_looksBy [(0, 1), (1, 1)] [(0, 1), (1, 1), (2, 1)] 0 36 (([], 0), ([], 0)) F_M_looksBy from
  (s_seq (sl1 := [(0, 1), (1, 1), (2, 1)]) (p1 := 7) (s_decl (p1 := 6) (e_iald (p1 := 4) (p2 := 5) (e_gR (k0 := 52) (p1 := 1) cf_12 (e_aload_n (k0 := 0) d_M_looksBy_0 rfl rfl) (by decide) tw_1412 d_M_looksBy_1) (e_iload_n (k0 := 1) d_M_looksBy_4 rfl rfl) d_M_looksBy_5) (t_istore_n d_M_looksBy_6 rfl (by decide)) rfl) (s_seq (sl1 := [(0, 1), (1, 1), (2, 1)]) (p1 := 18) (s_call (p1 := 15) (a_cons (ι := Value.ref) (k0 := 1) (p1 := 8) (fun _ => rfl) (e_aload_n (k0 := 0) d_M_looksBy_7 rfl rfl) (a_cons (ι := Value.int) (k0 := 1) (p1 := 9) (fun _ => rfl) (e_iload_n (k0 := 1) d_M_looksBy_8 rfl rfl) (a_cons (ι := Value.int) (k0 := 1) (p1 := 10) (fun _ => rfl) (e_iload_n (k0 := 2) d_M_looksBy_9 rfl rfl) (a_cons (ι := Value.int) (k0 := 1) (p1 := 15) (fun _ => rfl) (e_cI (p1 := 12) (a_cons (ι := Value.ref) (k0 := 1) (p1 := 11) (fun _ => rfl) (e_aload_n (k0 := 0) d_M_looksBy_10 rfl rfl) (a_cons (ι := Value.int) (k0 := 1) (p1 := 12) (fun _ => rfl) (e_iload_n (k0 := 2) d_M_looksBy_11 rfl rfl) a_nil)) (k_virt ok_M_choosing mf_M_choosing ⟨tw_1735, tw_80⟩ rfl tw_1733 d_M_looksBy_12 (by decide) (by decide) (by decide))) a_nil)))) (k_virt ok_M_looks mf_M_looks ⟨tw_1763, tw_86⟩ rfl tw_1761 d_M_looksBy_15 (by decide) (by decide) (by decide))) (s_seq (sl1 := [(0, 1), (1, 1), (2, 1)]) (p1 := 35) (s_ast (p1 := 22) (p2 := 23) (p3 := 34) (e_gR (k0 := 44) (p1 := 19) cf_12 (e_aload_n (k0 := 0) d_M_looksBy_18 rfl rfl) (by decide) tw_1404 d_M_looksBy_19) (e_iconst d_M_looksBy_22 (by decide)) (e_cI (p1 := 31) (a_cons (ι := Value.ref) (k0 := 1) (p1 := 24) (fun _ => rfl) (e_aload_n (k0 := 0) d_M_looksBy_23 rfl rfl) (a_cons (ι := Value.int) (k0 := 1) (p1 := 25) (fun _ => rfl) (e_iload_n (k0 := 1) d_M_looksBy_24 rfl rfl) (a_cons (ι := Value.int) (k0 := 1) (p1 := 30) (fun _ => rfl) (e_cI (p1 := 27) (a_cons (ι := Value.ref) (k0 := 1) (p1 := 26) (fun _ => rfl) (e_aload_n (k0 := 0) d_M_looksBy_25 rfl rfl) (a_cons (ι := Value.int) (k0 := 1) (p1 := 27) (fun _ => rfl) (e_iload_n (k0 := 1) d_M_looksBy_26 rfl rfl) a_nil)) (k_virt ok_M_seenBits mf_M_seenBits ⟨tw_1743, tw_82⟩ rfl tw_1741 d_M_looksBy_27 (by decide) (by decide) (by decide))) (a_cons (ι := Value.int) (k0 := 1) (p1 := 31) (fun _ => rfl) (e_iload_n (k0 := 2) d_M_looksBy_30 rfl rfl) a_nil)))) (k_virt ok_M_greatestWant mf_M_greatestWant ⟨tw_1767, tw_87⟩ rfl tw_1765 d_M_looksBy_31 (by decide) (by decide) (by decide))) (as_i d_M_looksBy_34)) (s_retV rfl d_M_looksBy_35)))))
/-! BlinkerCrossModel.standsOf(I)I -/
abbrev y_M_standsOf : MethodName := ⟨"BlinkerCrossModel", "standsOf", "(I)I"⟩
abbrev Y_M_standsOf : Yt := (prog_14_method_59_code, 2, "BlinkerCrossModel", 3, (some .int), "standsOf")
theorem d_M_standsOf_0 : decode prog_14_method_59_code 0 = .ok (.aload_n 0, 1) := by decide +kernel
theorem d_M_standsOf_1 : decode prog_14_method_59_code 1 = .ok (.iload_n 1, 1) := by decide +kernel
theorem d_M_standsOf_2 : decode prog_14_method_59_code 2 = .ok (.invokevirtual 373, 3) := by decide +kernel
theorem d_M_standsOf_5 : decode prog_14_method_59_code 5 = .ok (.aload_n 0, 1) := by decide +kernel
theorem d_M_standsOf_6 : decode prog_14_method_59_code 6 = .ok (.iconst 0, 1) := by decide +kernel
theorem d_M_standsOf_7 : decode prog_14_method_59_code 7 = .ok (.aload_n 0, 1) := by decide +kernel
theorem d_M_standsOf_8 : decode prog_14_method_59_code 8 = .ok (.getfield 101, 3) := by decide +kernel
theorem d_M_standsOf_11 : decode prog_14_method_59_code 11 = .ok (.iconst 0, 1) := by decide +kernel
theorem d_M_standsOf_12 : decode prog_14_method_59_code 12 = .ok (.iaload, 1) := by decide +kernel
theorem d_M_standsOf_13 : decode prog_14_method_59_code 13 = .ok (.invokevirtual 376, 3) := by decide +kernel
theorem d_M_standsOf_16 : decode prog_14_method_59_code 16 = .ok (.iconst 0, 1) := by decide +kernel
theorem d_M_standsOf_17 : decode prog_14_method_59_code 17 = .ok (.bipush 99, 2) := by decide +kernel
theorem d_M_standsOf_19 : decode prog_14_method_59_code 19 = .ok (.invokestatic 379, 3) := by decide +kernel
theorem d_M_standsOf_22 : decode prog_14_method_59_code 22 = .ok (.ireturn, 1) := by decide +kernel
noncomputable def F_M_standsOf : Sm := sSeq (sCall (mV 12 D_M_looksBy) [asV Value.ref (vR 0), asV Value.int (vI 1)]) (sRet (asV Value.int (cI (D_M_within) [asV Value.int (cI (mV 12 D_M_lawTells) [asV Value.ref (vR 0), asV Value.int (kI (ii 0)), asV Value.int (aI 0 (gR 12 44 (vR 0)) (kI (ii 0)))]), asV Value.int (kI (ii 0)), asV Value.int (kI (ii 99))])))
theorem mf_M_standsOf : Mf y_M_standsOf prog_14_method_59_code 2 (some .int) 1 := ⟨tw_1756, tw_134, by decide +kernel⟩
noncomputable def D_M_standsOf : Dn := runS [1, 1] F_M_standsOf
theorem ok_M_standsOf : MOK y_M_standsOf prog_14_method_59_code 2 (some .int) 3 0 0 D_M_standsOf := MOK.of (by decide) (by decide) (show SO Y_M_standsOf [(0, 1), (1, 1)] [(0, 1), (1, 1)] 0 23 (([], 0), ([], 0)) F_M_standsOf from
  (s_seq (sl1 := [(0, 1), (1, 1)]) (p1 := 5) (s_call (p1 := 2) (a_cons (ι := Value.ref) (k0 := 1) (p1 := 1) (fun _ => rfl) (e_aload_n (k0 := 0) d_M_standsOf_0 rfl rfl) (a_cons (ι := Value.int) (k0 := 1) (p1 := 2) (fun _ => rfl) (e_iload_n (k0 := 1) d_M_standsOf_1 rfl rfl) a_nil)) (k_virt ok_M_looksBy mf_M_looksBy ⟨tw_1759, tw_85⟩ rfl tw_1757 d_M_standsOf_2 (by decide) (by decide) (by decide))) (s_ret (p1 := 22) (e_cI (p1 := 19) (a_cons (ι := Value.int) (k0 := 1) (p1 := 16) (fun _ => rfl) (e_cI (p1 := 13) (a_cons (ι := Value.ref) (k0 := 1) (p1 := 6) (fun _ => rfl) (e_aload_n (k0 := 0) d_M_standsOf_5 rfl rfl) (a_cons (ι := Value.int) (k0 := 1) (p1 := 7) (fun _ => rfl) (e_iconst d_M_standsOf_6 (by decide)) (a_cons (ι := Value.int) (k0 := 1) (p1 := 13) (fun _ => rfl) (e_iald (p1 := 11) (p2 := 12) (e_gR (k0 := 44) (p1 := 8) cf_12 (e_aload_n (k0 := 0) d_M_standsOf_7 rfl rfl) (by decide) tw_1404 d_M_standsOf_8) (e_iconst d_M_standsOf_11 (by decide)) d_M_standsOf_12) a_nil))) (k_virt ok_M_lawTells mf_M_lawTells ⟨tw_1771, tw_88⟩ rfl tw_1769 d_M_standsOf_13 (by decide) (by decide) (by decide))) (a_cons (ι := Value.int) (k0 := 1) (p1 := 17) (fun _ => rfl) (e_iconst d_M_standsOf_16 (by decide)) (a_cons (ι := Value.int) (k0 := 1) (p1 := 19) (fun _ => rfl) (e_bipush d_M_standsOf_17 (by decide)) a_nil))) (k_stat ok_M_within mf_M_within tw_1778 tw_1777 d_M_standsOf_19 (by decide) (by decide) (by decide))) rfl d_M_standsOf_22)))
/-! BlinkerCrossModel.doesKeep(I)Z -/
abbrev y_M_doesKeep : MethodName := ⟨"BlinkerCrossModel", "doesKeep", "(I)Z"⟩
abbrev Y_M_doesKeep : Yt := (prog_14_method_60_code, 2, "BlinkerCrossModel", 3, (some .boolean), "doesKeep")
theorem d_M_doesKeep_0 : decode prog_14_method_60_code 0 = .ok (.aload_n 0, 1) := by decide +kernel
theorem d_M_doesKeep_1 : decode prog_14_method_60_code 1 = .ok (.iload_n 1, 1) := by decide +kernel
theorem d_M_doesKeep_2 : decode prog_14_method_60_code 2 = .ok (.invokevirtual 373, 3) := by decide +kernel
theorem d_M_doesKeep_5 : decode prog_14_method_60_code 5 = .ok (.aload_n 0, 1) := by decide +kernel
theorem d_M_doesKeep_6 : decode prog_14_method_60_code 6 = .ok (.iconst 2, 1) := by decide +kernel
theorem d_M_doesKeep_7 : decode prog_14_method_60_code 7 = .ok (.iconst 0, 1) := by decide +kernel
theorem d_M_doesKeep_8 : decode prog_14_method_60_code 8 = .ok (.invokevirtual 376, 3) := by decide +kernel
theorem d_M_doesKeep_11 : decode prog_14_method_60_code 11 = .ok (.ifCond .le 7, 3) := by decide +kernel
theorem d_M_doesKeep_14 : decode prog_14_method_60_code 14 = .ok (.iconst 1, 1) := by decide +kernel
theorem d_M_doesKeep_15 : decode prog_14_method_60_code 15 = .ok (.goto 4, 3) := by decide +kernel
theorem d_M_doesKeep_18 : decode prog_14_method_60_code 18 = .ok (.iconst 0, 1) := by decide +kernel
theorem d_M_doesKeep_19 : decode prog_14_method_60_code 19 = .ok (.ireturn, 1) := by decide +kernel
noncomputable def F_M_doesKeep : Sm := sSeq (sCall (mV 12 D_M_looksBy) [asV Value.ref (vR 0), asV Value.int (vI 1)]) (sRetZ (bX (o1 (fun x => decide (x > 0)) (cI (mV 12 D_M_lawTells) [asV Value.ref (vR 0), asV Value.int (kI (ii 2)), asV Value.int (kI (ii 0))]))))
theorem mf_M_doesKeep : Mf y_M_doesKeep prog_14_method_60_code 2 (some .boolean) 1 := ⟨tw_1787, tw_134, by decide +kernel⟩
noncomputable def D_M_doesKeep : Dn := runS [1, 1] F_M_doesKeep
theorem ok_M_doesKeep : MOK y_M_doesKeep prog_14_method_60_code 2 (some .boolean) 3 0 0 D_M_doesKeep := MOK.of (by decide) (by decide) (show SO Y_M_doesKeep [(0, 1), (1, 1)] [(0, 1), (1, 1)] 0 20 (([], 0), ([], 0)) F_M_doesKeep from
  (s_seq (sl1 := [(0, 1), (1, 1)]) (p1 := 5) (s_call (p1 := 2) (a_cons (ι := Value.ref) (k0 := 1) (p1 := 1) (fun _ => rfl) (e_aload_n (k0 := 0) d_M_doesKeep_0 rfl rfl) (a_cons (ι := Value.int) (k0 := 1) (p1 := 2) (fun _ => rfl) (e_iload_n (k0 := 1) d_M_doesKeep_1 rfl rfl) a_nil)) (k_virt ok_M_looksBy mf_M_looksBy ⟨tw_1759, tw_85⟩ rfl tw_1757 d_M_doesKeep_2 (by decide) (by decide) (by decide))) (s_retZ (p1 := 19) (e_bool (pt := 14) (pf := 18) (c_if_leF (p1 := 11) (tg := 18) (e_cI (p1 := 8) (a_cons (ι := Value.ref) (k0 := 1) (p1 := 6) (fun _ => rfl) (e_aload_n (k0 := 0) d_M_doesKeep_5 rfl rfl) (a_cons (ι := Value.int) (k0 := 1) (p1 := 7) (fun _ => rfl) (e_iconst d_M_doesKeep_6 (by decide)) (a_cons (ι := Value.int) (k0 := 1) (p1 := 8) (fun _ => rfl) (e_iconst d_M_doesKeep_7 (by decide)) a_nil))) (k_virt ok_M_lawTells mf_M_lawTells ⟨tw_1771, tw_88⟩ rfl tw_1769 d_M_doesKeep_8 (by decide) (by decide) (by decide))) d_M_doesKeep_11 rfl) d_M_doesKeep_14 d_M_doesKeep_15 rfl d_M_doesKeep_18 rfl) rfl d_M_doesKeep_19)))
/-! BlinkerCrossModel.turnsOf(I)I -/
abbrev y_M_turnsOf : MethodName := ⟨"BlinkerCrossModel", "turnsOf", "(I)I"⟩
abbrev Y_M_turnsOf : Yt := (prog_14_method_61_code, 2, "BlinkerCrossModel", 3, (some .int), "turnsOf")
theorem d_M_turnsOf_0 : decode prog_14_method_61_code 0 = .ok (.aload_n 0, 1) := by decide +kernel
theorem d_M_turnsOf_1 : decode prog_14_method_61_code 1 = .ok (.iload_n 1, 1) := by decide +kernel
theorem d_M_turnsOf_2 : decode prog_14_method_61_code 2 = .ok (.invokevirtual 373, 3) := by decide +kernel
theorem d_M_turnsOf_5 : decode prog_14_method_61_code 5 = .ok (.aload_n 0, 1) := by decide +kernel
theorem d_M_turnsOf_6 : decode prog_14_method_61_code 6 = .ok (.iconst 3, 1) := by decide +kernel
theorem d_M_turnsOf_7 : decode prog_14_method_61_code 7 = .ok (.iconst 0, 1) := by decide +kernel
theorem d_M_turnsOf_8 : decode prog_14_method_61_code 8 = .ok (.invokevirtual 376, 3) := by decide +kernel
theorem d_M_turnsOf_11 : decode prog_14_method_61_code 11 = .ok (.iconst 0, 1) := by decide +kernel
theorem d_M_turnsOf_12 : decode prog_14_method_61_code 12 = .ok (.bipush 100, 2) := by decide +kernel
theorem d_M_turnsOf_14 : decode prog_14_method_61_code 14 = .ok (.invokestatic 379, 3) := by decide +kernel
theorem d_M_turnsOf_17 : decode prog_14_method_61_code 17 = .ok (.ireturn, 1) := by decide +kernel
noncomputable def F_M_turnsOf : Sm := sSeq (sCall (mV 12 D_M_looksBy) [asV Value.ref (vR 0), asV Value.int (vI 1)]) (sRet (asV Value.int (cI (D_M_within) [asV Value.int (cI (mV 12 D_M_lawTells) [asV Value.ref (vR 0), asV Value.int (kI (ii 3)), asV Value.int (kI (ii 0))]), asV Value.int (kI (ii 0)), asV Value.int (kI (ii 100))])))
theorem mf_M_turnsOf : Mf y_M_turnsOf prog_14_method_61_code 2 (some .int) 1 := ⟨tw_1791, tw_134, by decide +kernel⟩
noncomputable def D_M_turnsOf : Dn := runS [1, 1] F_M_turnsOf
theorem ok_M_turnsOf : MOK y_M_turnsOf prog_14_method_61_code 2 (some .int) 3 0 0 D_M_turnsOf := MOK.of (by decide) (by decide) (show SO Y_M_turnsOf [(0, 1), (1, 1)] [(0, 1), (1, 1)] 0 18 (([], 0), ([], 0)) F_M_turnsOf from
  (s_seq (sl1 := [(0, 1), (1, 1)]) (p1 := 5) (s_call (p1 := 2) (a_cons (ι := Value.ref) (k0 := 1) (p1 := 1) (fun _ => rfl) (e_aload_n (k0 := 0) d_M_turnsOf_0 rfl rfl) (a_cons (ι := Value.int) (k0 := 1) (p1 := 2) (fun _ => rfl) (e_iload_n (k0 := 1) d_M_turnsOf_1 rfl rfl) a_nil)) (k_virt ok_M_looksBy mf_M_looksBy ⟨tw_1759, tw_85⟩ rfl tw_1757 d_M_turnsOf_2 (by decide) (by decide) (by decide))) (s_ret (p1 := 17) (e_cI (p1 := 14) (a_cons (ι := Value.int) (k0 := 1) (p1 := 11) (fun _ => rfl) (e_cI (p1 := 8) (a_cons (ι := Value.ref) (k0 := 1) (p1 := 6) (fun _ => rfl) (e_aload_n (k0 := 0) d_M_turnsOf_5 rfl rfl) (a_cons (ι := Value.int) (k0 := 1) (p1 := 7) (fun _ => rfl) (e_iconst d_M_turnsOf_6 (by decide)) (a_cons (ι := Value.int) (k0 := 1) (p1 := 8) (fun _ => rfl) (e_iconst d_M_turnsOf_7 (by decide)) a_nil))) (k_virt ok_M_lawTells mf_M_lawTells ⟨tw_1771, tw_88⟩ rfl tw_1769 d_M_turnsOf_8 (by decide) (by decide) (by decide))) (a_cons (ι := Value.int) (k0 := 1) (p1 := 12) (fun _ => rfl) (e_iconst d_M_turnsOf_11 (by decide)) (a_cons (ι := Value.int) (k0 := 1) (p1 := 14) (fun _ => rfl) (e_bipush d_M_turnsOf_12 (by decide)) a_nil))) (k_stat ok_M_within mf_M_within tw_1778 tw_1777 d_M_turnsOf_14 (by decide) (by decide) (by decide))) rfl d_M_turnsOf_17)))
/-! BlinkerCrossModel.crowdsOf(III)I -/
abbrev y_M_crowdsOf : MethodName := ⟨"BlinkerCrossModel", "crowdsOf", "(III)I"⟩
abbrev Y_M_crowdsOf : Yt := (prog_14_method_62_code, 4, "BlinkerCrossModel", 2, (some .int), "crowdsOf")
theorem d_M_crowdsOf_0 : decode prog_14_method_62_code 0 = .ok (.aload_n 0, 1) := by decide +kernel
theorem d_M_crowdsOf_1 : decode prog_14_method_62_code 1 = .ok (.iload_n 1, 1) := by decide +kernel
theorem d_M_crowdsOf_2 : decode prog_14_method_62_code 2 = .ok (.iload_n 2, 1) := by decide +kernel
theorem d_M_crowdsOf_3 : decode prog_14_method_62_code 3 = .ok (.iload_n 3, 1) := by decide +kernel
theorem d_M_crowdsOf_4 : decode prog_14_method_62_code 4 = .ok (.invokevirtual 366, 3) := by decide +kernel
theorem d_M_crowdsOf_7 : decode prog_14_method_62_code 7 = .ok (.aload_n 0, 1) := by decide +kernel
theorem d_M_crowdsOf_8 : decode prog_14_method_62_code 8 = .ok (.iconst 1, 1) := by decide +kernel
theorem d_M_crowdsOf_9 : decode prog_14_method_62_code 9 = .ok (.iload_n 3, 1) := by decide +kernel
theorem d_M_crowdsOf_10 : decode prog_14_method_62_code 10 = .ok (.invokevirtual 376, 3) := by decide +kernel
theorem d_M_crowdsOf_13 : decode prog_14_method_62_code 13 = .ok (.iconst 0, 1) := by decide +kernel
theorem d_M_crowdsOf_14 : decode prog_14_method_62_code 14 = .ok (.bipush 99, 2) := by decide +kernel
theorem d_M_crowdsOf_16 : decode prog_14_method_62_code 16 = .ok (.invokestatic 379, 3) := by decide +kernel
theorem d_M_crowdsOf_19 : decode prog_14_method_62_code 19 = .ok (.ireturn, 1) := by decide +kernel
noncomputable def F_M_crowdsOf : Sm := sSeq (sCall (mV 12 D_M_looks) [asV Value.ref (vR 0), asV Value.int (vI 1), asV Value.int (vI 2), asV Value.int (vI 3)]) (sRet (asV Value.int (cI (D_M_within) [asV Value.int (cI (mV 12 D_M_lawTells) [asV Value.ref (vR 0), asV Value.int (kI (ii 1)), asV Value.int (vI 3)]), asV Value.int (kI (ii 0)), asV Value.int (kI (ii 99))])))
theorem mf_M_crowdsOf : Mf y_M_crowdsOf prog_14_method_62_code 4 (some .int) 3 := ⟨tw_1808, tw_134, by decide +kernel⟩
noncomputable def D_M_crowdsOf : Dn := runS [1, 1, 1, 1] F_M_crowdsOf
theorem ok_M_crowdsOf : MOK y_M_crowdsOf prog_14_method_62_code 4 (some .int) 2 0 0 D_M_crowdsOf := MOK.of (by decide) (by decide) (show SO Y_M_crowdsOf [(0, 1), (1, 1), (2, 1), (3, 1)] [(0, 1), (1, 1), (2, 1), (3, 1)] 0 20 (([], 0), ([], 0)) F_M_crowdsOf from
  (s_seq (sl1 := [(0, 1), (1, 1), (2, 1), (3, 1)]) (p1 := 7) (s_call (p1 := 4) (a_cons (ι := Value.ref) (k0 := 1) (p1 := 1) (fun _ => rfl) (e_aload_n (k0 := 0) d_M_crowdsOf_0 rfl rfl) (a_cons (ι := Value.int) (k0 := 1) (p1 := 2) (fun _ => rfl) (e_iload_n (k0 := 1) d_M_crowdsOf_1 rfl rfl) (a_cons (ι := Value.int) (k0 := 1) (p1 := 3) (fun _ => rfl) (e_iload_n (k0 := 2) d_M_crowdsOf_2 rfl rfl) (a_cons (ι := Value.int) (k0 := 1) (p1 := 4) (fun _ => rfl) (e_iload_n (k0 := 3) d_M_crowdsOf_3 rfl rfl) a_nil)))) (k_virt ok_M_looks mf_M_looks ⟨tw_1763, tw_86⟩ rfl tw_1761 d_M_crowdsOf_4 (by decide) (by decide) (by decide))) (s_ret (p1 := 19) (e_cI (p1 := 16) (a_cons (ι := Value.int) (k0 := 1) (p1 := 13) (fun _ => rfl) (e_cI (p1 := 10) (a_cons (ι := Value.ref) (k0 := 1) (p1 := 8) (fun _ => rfl) (e_aload_n (k0 := 0) d_M_crowdsOf_7 rfl rfl) (a_cons (ι := Value.int) (k0 := 1) (p1 := 9) (fun _ => rfl) (e_iconst d_M_crowdsOf_8 (by decide)) (a_cons (ι := Value.int) (k0 := 1) (p1 := 10) (fun _ => rfl) (e_iload_n (k0 := 3) d_M_crowdsOf_9 rfl rfl) a_nil))) (k_virt ok_M_lawTells mf_M_lawTells ⟨tw_1771, tw_88⟩ rfl tw_1769 d_M_crowdsOf_10 (by decide) (by decide) (by decide))) (a_cons (ι := Value.int) (k0 := 1) (p1 := 14) (fun _ => rfl) (e_iconst d_M_crowdsOf_13 (by decide)) (a_cons (ι := Value.int) (k0 := 1) (p1 := 16) (fun _ => rfl) (e_bipush d_M_crowdsOf_14 (by decide)) a_nil))) (k_stat ok_M_within mf_M_within tw_1778 tw_1777 d_M_crowdsOf_16 (by decide) (by decide) (by decide))) rfl d_M_crowdsOf_19)))
/-! BlinkerCrossModel.gainOf(III)I -/
abbrev y_M_gainOf : MethodName := ⟨"BlinkerCrossModel", "gainOf", "(III)I"⟩
abbrev Y_M_gainOf : Yt := (prog_14_method_63_code, 4, "BlinkerCrossModel", 3, (some .int), "gainOf")
theorem d_M_gainOf_0 : decode prog_14_method_63_code 0 = .ok (.aload_n 0, 1) := by decide +kernel
theorem d_M_gainOf_1 : decode prog_14_method_63_code 1 = .ok (.iload_n 1, 1) := by decide +kernel
theorem d_M_gainOf_2 : decode prog_14_method_63_code 2 = .ok (.iload_n 2, 1) := by decide +kernel
theorem d_M_gainOf_3 : decode prog_14_method_63_code 3 = .ok (.invokevirtual 342, 3) := by decide +kernel
theorem d_M_gainOf_6 : decode prog_14_method_63_code 6 = .ok (.aload_n 0, 1) := by decide +kernel
theorem d_M_gainOf_7 : decode prog_14_method_63_code 7 = .ok (.iload_n 1, 1) := by decide +kernel
theorem d_M_gainOf_8 : decode prog_14_method_63_code 8 = .ok (.iload_n 2, 1) := by decide +kernel
theorem d_M_gainOf_9 : decode prog_14_method_63_code 9 = .ok (.iload_n 3, 1) := by decide +kernel
theorem d_M_gainOf_10 : decode prog_14_method_63_code 10 = .ok (.invokevirtual 382, 3) := by decide +kernel
theorem d_M_gainOf_13 : decode prog_14_method_63_code 13 = .ok (.isub, 1) := by decide +kernel
theorem d_M_gainOf_14 : decode prog_14_method_63_code 14 = .ok (.ireturn, 1) := by decide +kernel
noncomputable def F_M_gainOf : Sm := sRet (asV Value.int (o2 (fun x y => x - y) (cI (mV 12 D_M_wantAt) [asV Value.ref (vR 0), asV Value.int (vI 1), asV Value.int (vI 2)]) (cI (mV 12 D_M_crowdsOf) [asV Value.ref (vR 0), asV Value.int (vI 1), asV Value.int (vI 2), asV Value.int (vI 3)])))
theorem mf_M_gainOf : Mf y_M_gainOf prog_14_method_63_code 4 (some .int) 3 := ⟨tw_1855, tw_134, by decide +kernel⟩
noncomputable def D_M_gainOf : Dn := runS [1, 1, 1, 1] F_M_gainOf
theorem ok_M_gainOf : MOK y_M_gainOf prog_14_method_63_code 4 (some .int) 3 0 0 D_M_gainOf := MOK.of (by decide) (by decide) (show SO Y_M_gainOf [(0, 1), (1, 1), (2, 1), (3, 1)] [(0, 1), (1, 1), (2, 1), (3, 1)] 0 15 (([], 0), ([], 0)) F_M_gainOf from
  (s_ret (p1 := 14) (e_isub (p1 := 6) (p2 := 13) (e_cI (p1 := 3) (a_cons (ι := Value.ref) (k0 := 1) (p1 := 1) (fun _ => rfl) (e_aload_n (k0 := 0) d_M_gainOf_0 rfl rfl) (a_cons (ι := Value.int) (k0 := 1) (p1 := 2) (fun _ => rfl) (e_iload_n (k0 := 1) d_M_gainOf_1 rfl rfl) (a_cons (ι := Value.int) (k0 := 1) (p1 := 3) (fun _ => rfl) (e_iload_n (k0 := 2) d_M_gainOf_2 rfl rfl) a_nil))) (k_virt ok_M_wantAt mf_M_wantAt ⟨tw_1731, tw_79⟩ rfl tw_1729 d_M_gainOf_3 (by decide) (by decide) (by decide))) (e_cI (p1 := 10) (a_cons (ι := Value.ref) (k0 := 1) (p1 := 7) (fun _ => rfl) (e_aload_n (k0 := 0) d_M_gainOf_6 rfl rfl) (a_cons (ι := Value.int) (k0 := 1) (p1 := 8) (fun _ => rfl) (e_iload_n (k0 := 1) d_M_gainOf_7 rfl rfl) (a_cons (ι := Value.int) (k0 := 1) (p1 := 9) (fun _ => rfl) (e_iload_n (k0 := 2) d_M_gainOf_8 rfl rfl) (a_cons (ι := Value.int) (k0 := 1) (p1 := 10) (fun _ => rfl) (e_iload_n (k0 := 3) d_M_gainOf_9 rfl rfl) a_nil)))) (k_virt ok_M_crowdsOf mf_M_crowdsOf ⟨tw_1807, tw_93⟩ rfl tw_1805 d_M_gainOf_10 (by decide) (by decide) (by decide))) d_M_gainOf_13) rfl d_M_gainOf_14))
/-! BlinkerCrossModel.choiceGain(I)I -/
abbrev y_M_choiceGain : MethodName := ⟨"BlinkerCrossModel", "choiceGain", "(I)I"⟩
abbrev Y_M_choiceGain : Yt := (prog_14_method_64_code, 3, "BlinkerCrossModel", 4, (some .int), "choiceGain")
theorem d_M_choiceGain_0 : decode prog_14_method_64_code 0 = .ok (.aload_n 0, 1) := by decide +kernel
theorem d_M_choiceGain_1 : decode prog_14_method_64_code 1 = .ok (.getfield 113, 3) := by decide +kernel
theorem d_M_choiceGain_4 : decode prog_14_method_64_code 4 = .ok (.iload_n 1, 1) := by decide +kernel
theorem d_M_choiceGain_5 : decode prog_14_method_64_code 5 = .ok (.iaload, 1) := by decide +kernel
theorem d_M_choiceGain_6 : decode prog_14_method_64_code 6 = .ok (.istore_n 2, 1) := by decide +kernel
theorem d_M_choiceGain_7 : decode prog_14_method_64_code 7 = .ok (.iload_n 2, 1) := by decide +kernel
theorem d_M_choiceGain_8 : decode prog_14_method_64_code 8 = .ok (.ifCond .ge 7, 3) := by decide +kernel
theorem d_M_choiceGain_11 : decode prog_14_method_64_code 11 = .ok (.iconst 0, 1) := by decide +kernel
theorem d_M_choiceGain_12 : decode prog_14_method_64_code 12 = .ok (.goto 14, 3) := by decide +kernel
theorem d_M_choiceGain_15 : decode prog_14_method_64_code 15 = .ok (.aload_n 0, 1) := by decide +kernel
theorem d_M_choiceGain_16 : decode prog_14_method_64_code 16 = .ok (.iload_n 1, 1) := by decide +kernel
theorem d_M_choiceGain_17 : decode prog_14_method_64_code 17 = .ok (.iload_n 2, 1) := by decide +kernel
theorem d_M_choiceGain_18 : decode prog_14_method_64_code 18 = .ok (.aload_n 0, 1) := by decide +kernel
theorem d_M_choiceGain_19 : decode prog_14_method_64_code 19 = .ok (.iload_n 2, 1) := by decide +kernel
theorem d_M_choiceGain_20 : decode prog_14_method_64_code 20 = .ok (.invokevirtual 363, 3) := by decide +kernel
theorem d_M_choiceGain_23 : decode prog_14_method_64_code 23 = .ok (.invokevirtual 385, 3) := by decide +kernel
theorem d_M_choiceGain_26 : decode prog_14_method_64_code 26 = .ok (.ireturn, 1) := by decide +kernel
noncomputable def F_M_choiceGain : Sm := sSeq (sDecl (asV Value.int (aI 0 (gR 12 52 (vR 0)) (vI 1)))) (sRet (asV Value.int (iX (o1 (fun x => decide (x < 0)) (vI 2)) (kI (ii 0)) (cI (mV 12 D_M_gainOf) [asV Value.ref (vR 0), asV Value.int (vI 1), asV Value.int (vI 2), asV Value.int (cI (mV 12 D_M_choosing) [asV Value.ref (vR 0), asV Value.int (vI 2)])]))))
theorem mf_M_choiceGain : Mf y_M_choiceGain prog_14_method_64_code 3 (some .int) 1 := ⟨tw_1851, tw_134, by decide +kernel⟩
noncomputable def D_M_choiceGain : Dn := runS [1, 1] F_M_choiceGain
theorem ok_M_choiceGain : MOK y_M_choiceGain prog_14_method_64_code 3 (some .int) 4 0 0 D_M_choiceGain := MOK.of (by decide) (by decide) (show SO Y_M_choiceGain [(0, 1), (1, 1)] [(0, 1), (1, 1), (2, 1)] 0 27 (([], 0), ([], 0)) F_M_choiceGain from
  (s_seq (sl1 := [(0, 1), (1, 1), (2, 1)]) (p1 := 7) (s_decl (p1 := 6) (e_iald (p1 := 4) (p2 := 5) (e_gR (k0 := 52) (p1 := 1) cf_12 (e_aload_n (k0 := 0) d_M_choiceGain_0 rfl rfl) (by decide) tw_1412 d_M_choiceGain_1) (e_iload_n (k0 := 1) d_M_choiceGain_4 rfl rfl) d_M_choiceGain_5) (t_istore_n d_M_choiceGain_6 rfl (by decide)) rfl) (s_ret (p1 := 26) (e_ite (pt := 11) (p1 := 12) (pf := 15) (c_if_geF (p1 := 8) (tg := 15) (e_iload_n (k0 := 2) d_M_choiceGain_7 rfl rfl) d_M_choiceGain_8 rfl) (e_iconst d_M_choiceGain_11 (by decide)) d_M_choiceGain_12 rfl (e_cI (p1 := 23) (a_cons (ι := Value.ref) (k0 := 1) (p1 := 16) (fun _ => rfl) (e_aload_n (k0 := 0) d_M_choiceGain_15 rfl rfl) (a_cons (ι := Value.int) (k0 := 1) (p1 := 17) (fun _ => rfl) (e_iload_n (k0 := 1) d_M_choiceGain_16 rfl rfl) (a_cons (ι := Value.int) (k0 := 1) (p1 := 18) (fun _ => rfl) (e_iload_n (k0 := 2) d_M_choiceGain_17 rfl rfl) (a_cons (ι := Value.int) (k0 := 1) (p1 := 23) (fun _ => rfl) (e_cI (p1 := 20) (a_cons (ι := Value.ref) (k0 := 1) (p1 := 19) (fun _ => rfl) (e_aload_n (k0 := 0) d_M_choiceGain_18 rfl rfl) (a_cons (ι := Value.int) (k0 := 1) (p1 := 20) (fun _ => rfl) (e_iload_n (k0 := 2) d_M_choiceGain_19 rfl rfl) a_nil)) (k_virt ok_M_choosing mf_M_choosing ⟨tw_1735, tw_80⟩ rfl tw_1733 d_M_choiceGain_20 (by decide) (by decide) (by decide))) a_nil)))) (k_virt ok_M_gainOf mf_M_gainOf ⟨tw_1854, tw_100⟩ rfl tw_1852 d_M_choiceGain_23 (by decide) (by decide) (by decide)))) rfl d_M_choiceGain_26)))
/-! BlinkerCrossModel.gainAll()I -/
abbrev y_M_gainAll : MethodName := ⟨"BlinkerCrossModel", "gainAll", "()I"⟩
abbrev Y_M_gainAll : Yt := (prog_14_method_65_code, 3, "BlinkerCrossModel", 5, (some .int), "gainAll")
theorem d_M_gainAll_0 : decode prog_14_method_65_code 0 = .ok (.iconst 0, 1) := by decide +kernel
theorem d_M_gainAll_1 : decode prog_14_method_65_code 1 = .ok (.istore_n 1, 1) := by decide +kernel
theorem d_M_gainAll_2 : decode prog_14_method_65_code 2 = .ok (.iconst 0, 1) := by decide +kernel
theorem d_M_gainAll_3 : decode prog_14_method_65_code 3 = .ok (.istore_n 2, 1) := by decide +kernel
theorem d_M_gainAll_4 : decode prog_14_method_65_code 4 = .ok (.iload_n 2, 1) := by decide +kernel
theorem d_M_gainAll_5 : decode prog_14_method_65_code 5 = .ok (.aload_n 0, 1) := by decide +kernel
theorem d_M_gainAll_6 : decode prog_14_method_65_code 6 = .ok (.getfield 52, 3) := by decide +kernel
theorem d_M_gainAll_9 : decode prog_14_method_65_code 9 = .ok (.aload_n 0, 1) := by decide +kernel
theorem d_M_gainAll_10 : decode prog_14_method_65_code 10 = .ok (.getfield 242, 3) := by decide +kernel
theorem d_M_gainAll_13 : decode prog_14_method_65_code 13 = .ok (.iaload, 1) := by decide +kernel
theorem d_M_gainAll_14 : decode prog_14_method_65_code 14 = .ok (.if_icmp .ge 17, 3) := by decide +kernel
theorem d_M_gainAll_17 : decode prog_14_method_65_code 17 = .ok (.iload_n 1, 1) := by decide +kernel
theorem d_M_gainAll_18 : decode prog_14_method_65_code 18 = .ok (.aload_n 0, 1) := by decide +kernel
theorem d_M_gainAll_19 : decode prog_14_method_65_code 19 = .ok (.iload_n 2, 1) := by decide +kernel
theorem d_M_gainAll_20 : decode prog_14_method_65_code 20 = .ok (.invokevirtual 388, 3) := by decide +kernel
theorem d_M_gainAll_23 : decode prog_14_method_65_code 23 = .ok (.iadd, 1) := by decide +kernel
theorem d_M_gainAll_24 : decode prog_14_method_65_code 24 = .ok (.istore_n 1, 1) := by decide +kernel
theorem d_M_gainAll_25 : decode prog_14_method_65_code 25 = .ok (.iinc 2 1, 3) := by decide +kernel
theorem d_M_gainAll_28 : decode prog_14_method_65_code 28 = .ok (.goto (-24), 3) := by decide +kernel
theorem d_M_gainAll_31 : decode prog_14_method_65_code 31 = .ok (.iload_n 1, 1) := by decide +kernel
theorem d_M_gainAll_32 : decode prog_14_method_65_code 32 = .ok (.ireturn, 1) := by decide +kernel
noncomputable def Lc_M_gainAll_1 : Xp Bool := o2 (fun x y => decide (x < y)) (vI 2) (aI 0 (gR 12 25 (vR 0)) (gI 12 18 (vR 0)))
noncomputable def Lb_M_gainAll_1 : Sm := sSet 1 (asV Value.int (o2 (fun x y => x + y) (vI 1) (cI (mV 12 D_M_choiceGain) [asV Value.ref (vR 0), asV Value.int (vI 2)])))
noncomputable def Lu_M_gainAll_1 : Sm := sInc 2 (ii 1)
noncomputable def F_M_gainAll : Sm := sSeq (sDecl (asV Value.int (kI (ii 0)))) (sSeq (sBlk 2 (sSeq (sDecl (asV Value.int (kI (ii 0)))) (sWh (Lc_M_gainAll_1) (Lb_M_gainAll_1) Lu_M_gainAll_1))) (sRet (asV Value.int (vI 1))))
theorem mf_M_gainAll : Mf y_M_gainAll prog_14_method_65_code 3 (some .int) 0 := ⟨tw_1958, tw_134, by decide +kernel⟩
noncomputable def D_M_gainAll : Dn := runS [1] F_M_gainAll
theorem ok_M_gainAll : MOK y_M_gainAll prog_14_method_65_code 3 (some .int) 5 0 0 D_M_gainAll := MOK.of (by decide) (by decide) (show SO Y_M_gainAll [(0, 1)] [(0, 1), (1, 1)] 0 33 (([], 0), ([], 0)) F_M_gainAll from
  (s_seq (sl1 := [(0, 1), (1, 1)]) (p1 := 2) (s_decl (p1 := 1) (e_iconst d_M_gainAll_0 (by decide)) (t_istore_n d_M_gainAll_1 rfl (by decide)) rfl) (s_seq (sl1 := [(0, 1), (1, 1)]) (p1 := 31) (s_blk (sl1 := [(0, 1), (1, 1), (2, 1)]) (s_seq (sl1 := [(0, 1), (1, 1), (2, 1)]) (p1 := 4) (s_decl (p1 := 3) (e_iconst d_M_gainAll_2 (by decide)) (t_istore_n d_M_gainAll_3 rfl (by decide)) rfl) (s_for (pt := 17) (pu := 25) (pf := 31) (pg := 0) (c_icmp_geF (p1 := 5) (p2 := 14) (tg := 31) (e_iload_n (k0 := 2) d_M_gainAll_4 rfl rfl) (e_iald (p1 := 9) (p2 := 13) (e_gR (k0 := 25) (p1 := 6) cf_12 (e_aload_n (k0 := 0) d_M_gainAll_5 rfl rfl) (by decide) tw_1385 d_M_gainAll_6) (e_gI (k0 := 18) (p1 := 10) cf_12 (e_aload_n (k0 := 0) d_M_gainAll_9 rfl rfl) (by decide) tw_1378 d_M_gainAll_10) d_M_gainAll_13) d_M_gainAll_14 rfl) (s_set (k0 := 1) (p1 := 24) (e_iadd (p1 := 18) (p2 := 23) (e_iload_n (k0 := 1) d_M_gainAll_17 rfl rfl) (e_cI (p1 := 20) (a_cons (ι := Value.ref) (k0 := 1) (p1 := 19) (fun _ => rfl) (e_aload_n (k0 := 0) d_M_gainAll_18 rfl rfl) (a_cons (ι := Value.int) (k0 := 1) (p1 := 20) (fun _ => rfl) (e_iload_n (k0 := 2) d_M_gainAll_19 rfl rfl) a_nil)) (k_virt ok_M_choiceGain mf_M_choiceGain ⟨tw_1850, tw_99⟩ rfl tw_1848 d_M_gainAll_20 (by decide) (by decide) (by decide))) d_M_gainAll_23) (t_istore_n d_M_gainAll_24 rfl (by decide)) rfl rfl) (s_goto (p1 := 28) (s_inc (k0 := 2) d_M_gainAll_25 rfl rfl (Nat.le_of_ble_eq_true rfl) rfl) d_M_gainAll_28 rfl))) rfl) (s_ret (p1 := 32) (e_iload_n (k0 := 1) d_M_gainAll_31 rfl rfl) rfl d_M_gainAll_32))))
/-! BlinkerCrossModel.standsAll()I -/
abbrev y_M_standsAll : MethodName := ⟨"BlinkerCrossModel", "standsAll", "()I"⟩
abbrev Y_M_standsAll : Yt := (prog_14_method_66_code, 3, "BlinkerCrossModel", 4, (some .int), "standsAll")
theorem d_M_standsAll_0 : decode prog_14_method_66_code 0 = .ok (.iconst 0, 1) := by decide +kernel
theorem d_M_standsAll_1 : decode prog_14_method_66_code 1 = .ok (.istore_n 1, 1) := by decide +kernel
theorem d_M_standsAll_2 : decode prog_14_method_66_code 2 = .ok (.iconst 0, 1) := by decide +kernel
theorem d_M_standsAll_3 : decode prog_14_method_66_code 3 = .ok (.istore_n 2, 1) := by decide +kernel
theorem d_M_standsAll_4 : decode prog_14_method_66_code 4 = .ok (.iload_n 2, 1) := by decide +kernel
theorem d_M_standsAll_5 : decode prog_14_method_66_code 5 = .ok (.aload_n 0, 1) := by decide +kernel
theorem d_M_standsAll_6 : decode prog_14_method_66_code 6 = .ok (.getfield 52, 3) := by decide +kernel
theorem d_M_standsAll_9 : decode prog_14_method_66_code 9 = .ok (.aload_n 0, 1) := by decide +kernel
theorem d_M_standsAll_10 : decode prog_14_method_66_code 10 = .ok (.getfield 242, 3) := by decide +kernel
theorem d_M_standsAll_13 : decode prog_14_method_66_code 13 = .ok (.iaload, 1) := by decide +kernel
theorem d_M_standsAll_14 : decode prog_14_method_66_code 14 = .ok (.if_icmp .ge 17, 3) := by decide +kernel
theorem d_M_standsAll_17 : decode prog_14_method_66_code 17 = .ok (.iload_n 1, 1) := by decide +kernel
theorem d_M_standsAll_18 : decode prog_14_method_66_code 18 = .ok (.aload_n 0, 1) := by decide +kernel
theorem d_M_standsAll_19 : decode prog_14_method_66_code 19 = .ok (.iload_n 2, 1) := by decide +kernel
theorem d_M_standsAll_20 : decode prog_14_method_66_code 20 = .ok (.invokevirtual 391, 3) := by decide +kernel
theorem d_M_standsAll_23 : decode prog_14_method_66_code 23 = .ok (.iadd, 1) := by decide +kernel
theorem d_M_standsAll_24 : decode prog_14_method_66_code 24 = .ok (.istore_n 1, 1) := by decide +kernel
theorem d_M_standsAll_25 : decode prog_14_method_66_code 25 = .ok (.iinc 2 1, 3) := by decide +kernel
theorem d_M_standsAll_28 : decode prog_14_method_66_code 28 = .ok (.goto (-24), 3) := by decide +kernel
theorem d_M_standsAll_31 : decode prog_14_method_66_code 31 = .ok (.iload_n 1, 1) := by decide +kernel
theorem d_M_standsAll_32 : decode prog_14_method_66_code 32 = .ok (.ireturn, 1) := by decide +kernel
noncomputable def Lc_M_standsAll_1 : Xp Bool := o2 (fun x y => decide (x < y)) (vI 2) (aI 0 (gR 12 25 (vR 0)) (gI 12 18 (vR 0)))
noncomputable def Lb_M_standsAll_1 : Sm := sSet 1 (asV Value.int (o2 (fun x y => x + y) (vI 1) (cI (mV 12 D_M_standsOf) [asV Value.ref (vR 0), asV Value.int (vI 2)])))
noncomputable def Lu_M_standsAll_1 : Sm := sInc 2 (ii 1)
noncomputable def F_M_standsAll : Sm := sSeq (sDecl (asV Value.int (kI (ii 0)))) (sSeq (sBlk 2 (sSeq (sDecl (asV Value.int (kI (ii 0)))) (sWh (Lc_M_standsAll_1) (Lb_M_standsAll_1) Lu_M_standsAll_1))) (sRet (asV Value.int (vI 1))))
theorem mf_M_standsAll : Mf y_M_standsAll prog_14_method_66_code 3 (some .int) 0 := ⟨tw_1894, tw_134, by decide +kernel⟩
noncomputable def D_M_standsAll : Dn := runS [1] F_M_standsAll
theorem ok_M_standsAll : MOK y_M_standsAll prog_14_method_66_code 3 (some .int) 4 0 0 D_M_standsAll := MOK.of (by decide) (by decide) (show SO Y_M_standsAll [(0, 1)] [(0, 1), (1, 1)] 0 33 (([], 0), ([], 0)) F_M_standsAll from
  (s_seq (sl1 := [(0, 1), (1, 1)]) (p1 := 2) (s_decl (p1 := 1) (e_iconst d_M_standsAll_0 (by decide)) (t_istore_n d_M_standsAll_1 rfl (by decide)) rfl) (s_seq (sl1 := [(0, 1), (1, 1)]) (p1 := 31) (s_blk (sl1 := [(0, 1), (1, 1), (2, 1)]) (s_seq (sl1 := [(0, 1), (1, 1), (2, 1)]) (p1 := 4) (s_decl (p1 := 3) (e_iconst d_M_standsAll_2 (by decide)) (t_istore_n d_M_standsAll_3 rfl (by decide)) rfl) (s_for (pt := 17) (pu := 25) (pf := 31) (pg := 0) (c_icmp_geF (p1 := 5) (p2 := 14) (tg := 31) (e_iload_n (k0 := 2) d_M_standsAll_4 rfl rfl) (e_iald (p1 := 9) (p2 := 13) (e_gR (k0 := 25) (p1 := 6) cf_12 (e_aload_n (k0 := 0) d_M_standsAll_5 rfl rfl) (by decide) tw_1385 d_M_standsAll_6) (e_gI (k0 := 18) (p1 := 10) cf_12 (e_aload_n (k0 := 0) d_M_standsAll_9 rfl rfl) (by decide) tw_1378 d_M_standsAll_10) d_M_standsAll_13) d_M_standsAll_14 rfl) (s_set (k0 := 1) (p1 := 24) (e_iadd (p1 := 18) (p2 := 23) (e_iload_n (k0 := 1) d_M_standsAll_17 rfl rfl) (e_cI (p1 := 20) (a_cons (ι := Value.ref) (k0 := 1) (p1 := 19) (fun _ => rfl) (e_aload_n (k0 := 0) d_M_standsAll_18 rfl rfl) (a_cons (ι := Value.int) (k0 := 1) (p1 := 20) (fun _ => rfl) (e_iload_n (k0 := 2) d_M_standsAll_19 rfl rfl) a_nil)) (k_virt ok_M_standsOf mf_M_standsOf ⟨tw_1755, tw_84⟩ rfl tw_1753 d_M_standsAll_20 (by decide) (by decide) (by decide))) d_M_standsAll_23) (t_istore_n d_M_standsAll_24 rfl (by decide)) rfl rfl) (s_goto (p1 := 28) (s_inc (k0 := 2) d_M_standsAll_25 rfl rfl (Nat.le_of_ble_eq_true rfl) rfl) d_M_standsAll_28 rfl))) rfl) (s_ret (p1 := 32) (e_iload_n (k0 := 1) d_M_standsAll_31 rfl rfl) rfl d_M_standsAll_32))))
/-! BlinkerCrossModel.missedAll()I -/
abbrev y_M_missedAll : MethodName := ⟨"BlinkerCrossModel", "missedAll", "()I"⟩
abbrev Y_M_missedAll : Yt := (prog_14_method_67_code, 3, "BlinkerCrossModel", 3, (some .int), "missedAll")
theorem d_M_missedAll_0 : decode prog_14_method_67_code 0 = .ok (.iconst 0, 1) := by decide +kernel
theorem d_M_missedAll_1 : decode prog_14_method_67_code 1 = .ok (.istore_n 1, 1) := by decide +kernel
theorem d_M_missedAll_2 : decode prog_14_method_67_code 2 = .ok (.iconst 0, 1) := by decide +kernel
theorem d_M_missedAll_3 : decode prog_14_method_67_code 3 = .ok (.istore_n 2, 1) := by decide +kernel
theorem d_M_missedAll_4 : decode prog_14_method_67_code 4 = .ok (.iload_n 2, 1) := by decide +kernel
theorem d_M_missedAll_5 : decode prog_14_method_67_code 5 = .ok (.aload_n 0, 1) := by decide +kernel
theorem d_M_missedAll_6 : decode prog_14_method_67_code 6 = .ok (.getfield 52, 3) := by decide +kernel
theorem d_M_missedAll_9 : decode prog_14_method_67_code 9 = .ok (.aload_n 0, 1) := by decide +kernel
theorem d_M_missedAll_10 : decode prog_14_method_67_code 10 = .ok (.getfield 242, 3) := by decide +kernel
theorem d_M_missedAll_13 : decode prog_14_method_67_code 13 = .ok (.iaload, 1) := by decide +kernel
theorem d_M_missedAll_14 : decode prog_14_method_67_code 14 = .ok (.if_icmp .ge 17, 3) := by decide +kernel
theorem d_M_missedAll_17 : decode prog_14_method_67_code 17 = .ok (.iload_n 1, 1) := by decide +kernel
theorem d_M_missedAll_18 : decode prog_14_method_67_code 18 = .ok (.aload_n 0, 1) := by decide +kernel
theorem d_M_missedAll_19 : decode prog_14_method_67_code 19 = .ok (.iload_n 2, 1) := by decide +kernel
theorem d_M_missedAll_20 : decode prog_14_method_67_code 20 = .ok (.invokevirtual 394, 3) := by decide +kernel
theorem d_M_missedAll_23 : decode prog_14_method_67_code 23 = .ok (.iadd, 1) := by decide +kernel
theorem d_M_missedAll_24 : decode prog_14_method_67_code 24 = .ok (.istore_n 1, 1) := by decide +kernel
theorem d_M_missedAll_25 : decode prog_14_method_67_code 25 = .ok (.iinc 2 1, 3) := by decide +kernel
theorem d_M_missedAll_28 : decode prog_14_method_67_code 28 = .ok (.goto (-24), 3) := by decide +kernel
theorem d_M_missedAll_31 : decode prog_14_method_67_code 31 = .ok (.iload_n 1, 1) := by decide +kernel
theorem d_M_missedAll_32 : decode prog_14_method_67_code 32 = .ok (.ireturn, 1) := by decide +kernel
noncomputable def Lc_M_missedAll_1 : Xp Bool := o2 (fun x y => decide (x < y)) (vI 2) (aI 0 (gR 12 25 (vR 0)) (gI 12 18 (vR 0)))
noncomputable def Lb_M_missedAll_1 : Sm := sSet 1 (asV Value.int (o2 (fun x y => x + y) (vI 1) (cI (mV 12 D_M_missedOf) [asV Value.ref (vR 0), asV Value.int (vI 2)])))
noncomputable def Lu_M_missedAll_1 : Sm := sInc 2 (ii 1)
noncomputable def F_M_missedAll : Sm := sSeq (sDecl (asV Value.int (kI (ii 0)))) (sSeq (sBlk 2 (sSeq (sDecl (asV Value.int (kI (ii 0)))) (sWh (Lc_M_missedAll_1) (Lb_M_missedAll_1) Lu_M_missedAll_1))) (sRet (asV Value.int (vI 1))))
theorem mf_M_missedAll : Mf y_M_missedAll prog_14_method_67_code 3 (some .int) 0 := ⟨tw_1890, tw_134, by decide +kernel⟩
noncomputable def D_M_missedAll : Dn := runS [1] F_M_missedAll
theorem ok_M_missedAll : MOK y_M_missedAll prog_14_method_67_code 3 (some .int) 3 0 0 D_M_missedAll := MOK.of (by decide) (by decide) (show SO Y_M_missedAll [(0, 1)] [(0, 1), (1, 1)] 0 33 (([], 0), ([], 0)) F_M_missedAll from
  (s_seq (sl1 := [(0, 1), (1, 1)]) (p1 := 2) (s_decl (p1 := 1) (e_iconst d_M_missedAll_0 (by decide)) (t_istore_n d_M_missedAll_1 rfl (by decide)) rfl) (s_seq (sl1 := [(0, 1), (1, 1)]) (p1 := 31) (s_blk (sl1 := [(0, 1), (1, 1), (2, 1)]) (s_seq (sl1 := [(0, 1), (1, 1), (2, 1)]) (p1 := 4) (s_decl (p1 := 3) (e_iconst d_M_missedAll_2 (by decide)) (t_istore_n d_M_missedAll_3 rfl (by decide)) rfl) (s_for (pt := 17) (pu := 25) (pf := 31) (pg := 0) (c_icmp_geF (p1 := 5) (p2 := 14) (tg := 31) (e_iload_n (k0 := 2) d_M_missedAll_4 rfl rfl) (e_iald (p1 := 9) (p2 := 13) (e_gR (k0 := 25) (p1 := 6) cf_12 (e_aload_n (k0 := 0) d_M_missedAll_5 rfl rfl) (by decide) tw_1385 d_M_missedAll_6) (e_gI (k0 := 18) (p1 := 10) cf_12 (e_aload_n (k0 := 0) d_M_missedAll_9 rfl rfl) (by decide) tw_1378 d_M_missedAll_10) d_M_missedAll_13) d_M_missedAll_14 rfl) (s_set (k0 := 1) (p1 := 24) (e_iadd (p1 := 18) (p2 := 23) (e_iload_n (k0 := 1) d_M_missedAll_17 rfl rfl) (e_cI (p1 := 20) (a_cons (ι := Value.ref) (k0 := 1) (p1 := 19) (fun _ => rfl) (e_aload_n (k0 := 0) d_M_missedAll_18 rfl rfl) (a_cons (ι := Value.int) (k0 := 1) (p1 := 20) (fun _ => rfl) (e_iload_n (k0 := 2) d_M_missedAll_19 rfl rfl) a_nil)) (k_virt ok_M_missedOf mf_M_missedOf ⟨tw_1782, tw_90⟩ rfl tw_1780 d_M_missedAll_20 (by decide) (by decide) (by decide))) d_M_missedAll_23) (t_istore_n d_M_missedAll_24 rfl (by decide)) rfl rfl) (s_goto (p1 := 28) (s_inc (k0 := 2) d_M_missedAll_25 rfl rfl (Nat.le_of_ble_eq_true rfl) rfl) d_M_missedAll_28 rfl))) rfl) (s_ret (p1 := 32) (e_iload_n (k0 := 1) d_M_missedAll_31 rfl rfl) rfl d_M_missedAll_32))))
/-! BlinkerCrossModel.plansOne(I)V -/
abbrev y_M_plansOne : MethodName := ⟨"BlinkerCrossModel", "plansOne", "(I)V"⟩
abbrev Y_M_plansOne : Yt := (prog_14_method_68_code, 3, "BlinkerCrossModel", 5, none, "plansOne")
theorem d_M_plansOne_0 : decode prog_14_method_68_code 0 = .ok (.aload_n 0, 1) := by decide +kernel
theorem d_M_plansOne_1 : decode prog_14_method_68_code 1 = .ok (.getfield 116, 3) := by decide +kernel
theorem d_M_plansOne_4 : decode prog_14_method_68_code 4 = .ok (.iload_n 1, 1) := by decide +kernel
theorem d_M_plansOne_5 : decode prog_14_method_68_code 5 = .ok (.aload_n 0, 1) := by decide +kernel
theorem d_M_plansOne_6 : decode prog_14_method_68_code 6 = .ok (.iload_n 1, 1) := by decide +kernel
theorem d_M_plansOne_7 : decode prog_14_method_68_code 7 = .ok (.invokevirtual 391, 3) := by decide +kernel
theorem d_M_plansOne_10 : decode prog_14_method_68_code 10 = .ok (.iastore, 1) := by decide +kernel
theorem d_M_plansOne_11 : decode prog_14_method_68_code 11 = .ok (.aload_n 0, 1) := by decide +kernel
theorem d_M_plansOne_12 : decode prog_14_method_68_code 12 = .ok (.getfield 119, 3) := by decide +kernel
theorem d_M_plansOne_15 : decode prog_14_method_68_code 15 = .ok (.iload_n 1, 1) := by decide +kernel
theorem d_M_plansOne_16 : decode prog_14_method_68_code 16 = .ok (.aload_n 0, 1) := by decide +kernel
theorem d_M_plansOne_17 : decode prog_14_method_68_code 17 = .ok (.iload_n 1, 1) := by decide +kernel
theorem d_M_plansOne_18 : decode prog_14_method_68_code 18 = .ok (.invokevirtual 388, 3) := by decide +kernel
theorem d_M_plansOne_21 : decode prog_14_method_68_code 21 = .ok (.iastore, 1) := by decide +kernel
theorem d_M_plansOne_22 : decode prog_14_method_68_code 22 = .ok (.aload_n 0, 1) := by decide +kernel
theorem d_M_plansOne_23 : decode prog_14_method_68_code 23 = .ok (.getfield 122, 3) := by decide +kernel
theorem d_M_plansOne_26 : decode prog_14_method_68_code 26 = .ok (.iload_n 1, 1) := by decide +kernel
theorem d_M_plansOne_27 : decode prog_14_method_68_code 27 = .ok (.aload_n 0, 1) := by decide +kernel
theorem d_M_plansOne_28 : decode prog_14_method_68_code 28 = .ok (.iload_n 1, 1) := by decide +kernel
theorem d_M_plansOne_29 : decode prog_14_method_68_code 29 = .ok (.invokevirtual 397, 3) := by decide +kernel
theorem d_M_plansOne_32 : decode prog_14_method_68_code 32 = .ok (.ifCond .eq 22, 3) := by decide +kernel
theorem d_M_plansOne_35 : decode prog_14_method_68_code 35 = .ok (.aload_n 0, 1) := by decide +kernel
theorem d_M_plansOne_36 : decode prog_14_method_68_code 36 = .ok (.getfield 110, 3) := by decide +kernel
theorem d_M_plansOne_39 : decode prog_14_method_68_code 39 = .ok (.iconst 5, 1) := by decide +kernel
theorem d_M_plansOne_40 : decode prog_14_method_68_code 40 = .ok (.iload_n 1, 1) := by decide +kernel
theorem d_M_plansOne_41 : decode prog_14_method_68_code 41 = .ok (.iadd, 1) := by decide +kernel
theorem d_M_plansOne_42 : decode prog_14_method_68_code 42 = .ok (.iaload, 1) := by decide +kernel
theorem d_M_plansOne_43 : decode prog_14_method_68_code 43 = .ok (.iconst 1, 1) := by decide +kernel
theorem d_M_plansOne_44 : decode prog_14_method_68_code 44 = .ok (.isub, 1) := by decide +kernel
theorem d_M_plansOne_45 : decode prog_14_method_68_code 45 = .ok (.iconst 1, 1) := by decide +kernel
theorem d_M_plansOne_46 : decode prog_14_method_68_code 46 = .ok (.bipush 6, 2) := by decide +kernel
theorem d_M_plansOne_48 : decode prog_14_method_68_code 48 = .ok (.invokestatic 379, 3) := by decide +kernel
theorem d_M_plansOne_51 : decode prog_14_method_68_code 51 = .ok (.goto 26, 3) := by decide +kernel
theorem d_M_plansOne_54 : decode prog_14_method_68_code 54 = .ok (.aload_n 0, 1) := by decide +kernel
theorem d_M_plansOne_55 : decode prog_14_method_68_code 55 = .ok (.getfield 110, 3) := by decide +kernel
theorem d_M_plansOne_58 : decode prog_14_method_68_code 58 = .ok (.iconst 5, 1) := by decide +kernel
theorem d_M_plansOne_59 : decode prog_14_method_68_code 59 = .ok (.iload_n 1, 1) := by decide +kernel
theorem d_M_plansOne_60 : decode prog_14_method_68_code 60 = .ok (.iadd, 1) := by decide +kernel
theorem d_M_plansOne_61 : decode prog_14_method_68_code 61 = .ok (.iaload, 1) := by decide +kernel
theorem d_M_plansOne_62 : decode prog_14_method_68_code 62 = .ok (.iconst 1, 1) := by decide +kernel
theorem d_M_plansOne_63 : decode prog_14_method_68_code 63 = .ok (.iadd, 1) := by decide +kernel
theorem d_M_plansOne_64 : decode prog_14_method_68_code 64 = .ok (.iconst 1, 1) := by decide +kernel
theorem d_M_plansOne_65 : decode prog_14_method_68_code 65 = .ok (.aload_n 0, 1) := by decide +kernel
theorem d_M_plansOne_66 : decode prog_14_method_68_code 66 = .ok (.getfield 110, 3) := by decide +kernel
theorem d_M_plansOne_69 : decode prog_14_method_68_code 69 = .ok (.bipush 10, 2) := by decide +kernel
theorem d_M_plansOne_71 : decode prog_14_method_68_code 71 = .ok (.iload_n 1, 1) := by decide +kernel
theorem d_M_plansOne_72 : decode prog_14_method_68_code 72 = .ok (.iadd, 1) := by decide +kernel
theorem d_M_plansOne_73 : decode prog_14_method_68_code 73 = .ok (.iaload, 1) := by decide +kernel
theorem d_M_plansOne_74 : decode prog_14_method_68_code 74 = .ok (.invokestatic 379, 3) := by decide +kernel
theorem d_M_plansOne_77 : decode prog_14_method_68_code 77 = .ok (.iastore, 1) := by decide +kernel
theorem d_M_plansOne_78 : decode prog_14_method_68_code 78 = .ok (.aload_n 0, 1) := by decide +kernel
theorem d_M_plansOne_79 : decode prog_14_method_68_code 79 = .ok (.getfield 326, 3) := by decide +kernel
theorem d_M_plansOne_82 : decode prog_14_method_68_code 82 = .ok (.ifCond .ne 31, 3) := by decide +kernel
theorem d_M_plansOne_85 : decode prog_14_method_68_code 85 = .ok (.aload_n 0, 1) := by decide +kernel
theorem d_M_plansOne_86 : decode prog_14_method_68_code 86 = .ok (.bipush 8, 2) := by decide +kernel
theorem d_M_plansOne_88 : decode prog_14_method_68_code 88 = .ok (.aload_n 0, 1) := by decide +kernel
theorem d_M_plansOne_89 : decode prog_14_method_68_code 89 = .ok (.getfield 110, 3) := by decide +kernel
theorem d_M_plansOne_92 : decode prog_14_method_68_code 92 = .ok (.bipush 55, 2) := by decide +kernel
theorem d_M_plansOne_94 : decode prog_14_method_68_code 94 = .ok (.iaload, 1) := by decide +kernel
theorem d_M_plansOne_95 : decode prog_14_method_68_code 95 = .ok (.imul, 1) := by decide +kernel
theorem d_M_plansOne_96 : decode prog_14_method_68_code 96 = .ok (.iload_n 1, 1) := by decide +kernel
theorem d_M_plansOne_97 : decode prog_14_method_68_code 97 = .ok (.iadd, 1) := by decide +kernel
theorem d_M_plansOne_98 : decode prog_14_method_68_code 98 = .ok (.invokevirtual 400, 3) := by decide +kernel
theorem d_M_plansOne_101 : decode prog_14_method_68_code 101 = .ok (.aload_n 0, 1) := by decide +kernel
theorem d_M_plansOne_102 : decode prog_14_method_68_code 102 = .ok (.iload_n 1, 1) := by decide +kernel
theorem d_M_plansOne_103 : decode prog_14_method_68_code 103 = .ok (.invokevirtual 403, 3) := by decide +kernel
theorem d_M_plansOne_106 : decode prog_14_method_68_code 106 = .ok (.if_icmp .ge 7, 3) := by decide +kernel
theorem d_M_plansOne_109 : decode prog_14_method_68_code 109 = .ok (.iconst 1, 1) := by decide +kernel
theorem d_M_plansOne_110 : decode prog_14_method_68_code 110 = .ok (.goto 4, 3) := by decide +kernel
theorem d_M_plansOne_113 : decode prog_14_method_68_code 113 = .ok (.iconst 0, 1) := by decide +kernel
theorem d_M_plansOne_114 : decode prog_14_method_68_code 114 = .ok (.istore_n 2, 1) := by decide +kernel
theorem d_M_plansOne_115 : decode prog_14_method_68_code 115 = .ok (.aload_n 0, 1) := by decide +kernel
theorem d_M_plansOne_116 : decode prog_14_method_68_code 116 = .ok (.getfield 125, 3) := by decide +kernel
theorem d_M_plansOne_119 : decode prog_14_method_68_code 119 = .ok (.iload_n 1, 1) := by decide +kernel
theorem d_M_plansOne_120 : decode prog_14_method_68_code 120 = .ok (.iload_n 2, 1) := by decide +kernel
theorem d_M_plansOne_121 : decode prog_14_method_68_code 121 = .ok (.ifCond .eq 24, 3) := by decide +kernel
theorem d_M_plansOne_124 : decode prog_14_method_68_code 124 = .ok (.aload_n 0, 1) := by decide +kernel
theorem d_M_plansOne_125 : decode prog_14_method_68_code 125 = .ok (.getfield 110, 3) := by decide +kernel
theorem d_M_plansOne_128 : decode prog_14_method_68_code 128 = .ok (.iload_n 1, 1) := by decide +kernel
theorem d_M_plansOne_129 : decode prog_14_method_68_code 129 = .ok (.iaload, 1) := by decide +kernel
theorem d_M_plansOne_130 : decode prog_14_method_68_code 130 = .ok (.iconst 1, 1) := by decide +kernel
theorem d_M_plansOne_131 : decode prog_14_method_68_code 131 = .ok (.iadd, 1) := by decide +kernel
theorem d_M_plansOne_132 : decode prog_14_method_68_code 132 = .ok (.aload_n 0, 1) := by decide +kernel
theorem d_M_plansOne_133 : decode prog_14_method_68_code 133 = .ok (.getfield 46, 3) := by decide +kernel
theorem d_M_plansOne_136 : decode prog_14_method_68_code 136 = .ok (.aload_n 0, 1) := by decide +kernel
theorem d_M_plansOne_137 : decode prog_14_method_68_code 137 = .ok (.getfield 242, 3) := by decide +kernel
theorem d_M_plansOne_140 : decode prog_14_method_68_code 140 = .ok (.iaload, 1) := by decide +kernel
theorem d_M_plansOne_141 : decode prog_14_method_68_code 141 = .ok (.irem, 1) := by decide +kernel
theorem d_M_plansOne_142 : decode prog_14_method_68_code 142 = .ok (.goto 9, 3) := by decide +kernel
theorem d_M_plansOne_145 : decode prog_14_method_68_code 145 = .ok (.aload_n 0, 1) := by decide +kernel
theorem d_M_plansOne_146 : decode prog_14_method_68_code 146 = .ok (.getfield 110, 3) := by decide +kernel
theorem d_M_plansOne_149 : decode prog_14_method_68_code 149 = .ok (.iload_n 1, 1) := by decide +kernel
theorem d_M_plansOne_150 : decode prog_14_method_68_code 150 = .ok (.iaload, 1) := by decide +kernel
theorem d_M_plansOne_151 : decode prog_14_method_68_code 151 = .ok (.iastore, 1) := by decide +kernel
theorem d_M_plansOne_152 : decode prog_14_method_68_code 152 = .ok (.return_, 1) := by decide +kernel
noncomputable def F_M_plansOne : Sm := sSeq (sAst 0 (gR 12 53 (vR 0)) (vI 1) (cI (mV 12 D_M_standsOf) [asV Value.ref (vR 0), asV Value.int (vI 1)])) (sSeq (sAst 0 (gR 12 54 (vR 0)) (vI 1) (cI (mV 12 D_M_choiceGain) [asV Value.ref (vR 0), asV Value.int (vI 1)])) (sSeq (sAst 0 (gR 12 55 (vR 0)) (vI 1) (iX (o1 (fun x => decide (x ≠ 0)) (cI (mV 12 D_M_doesKeep) [asV Value.ref (vR 0), asV Value.int (vI 1)])) (cI (D_M_within) [asV Value.int (o2 (fun x y => x - y) (aI 0 (gR 12 48 (vR 0)) (o2 (fun x y => x + y) (kI (ii 5)) (vI 1))) (kI (ii 1))), asV Value.int (kI (ii 1)), asV Value.int (kI (ii 6))]) (cI (D_M_within) [asV Value.int (o2 (fun x y => x + y) (aI 0 (gR 12 48 (vR 0)) (o2 (fun x y => x + y) (kI (ii 5)) (vI 1))) (kI (ii 1))), asV Value.int (kI (ii 1)), asV Value.int (aI 0 (gR 12 48 (vR 0)) (o2 (fun x y => x + y) (kI (ii 10)) (vI 1)))]))) (sSeq (sDecl (asV Value.int (bX (cAnd (cNot (o1 (fun x => decide (x ≠ 0)) (gI 12 50 (vR 0)))) (o2 (fun x y => decide (x < y)) (cI (mV 12 D_M_lotOf) [asV Value.ref (vR 0), asV Value.int (o2 (fun x y => x + y) (o2 (fun x y => x * y) (kI (ii 8)) (aI 0 (gR 12 48 (vR 0)) (kI (ii 55)))) (vI 1))]) (cI (mV 12 D_M_turnsOf) [asV Value.ref (vR 0), asV Value.int (vI 1)])))))) (sSeq (sAst 0 (gR 12 56 (vR 0)) (vI 1) (iX (o1 (fun x => decide (x ≠ 0)) (vI 2)) (oR (o2 (fun x y => x + y) (aI 0 (gR 12 48 (vR 0)) (vI 1)) (kI (ii 1))) (aI 0 (gR 12 23 (vR 0)) (gI 12 18 (vR 0)))) (aI 0 (gR 12 48 (vR 0)) (vI 1)))) (sRetV)))))
theorem mf_M_plansOne : Mf y_M_plansOne prog_14_method_68_code 3 none 1 := ⟨tw_1847, tw_134, by decide +kernel⟩
noncomputable def D_M_plansOne : Dn := runS [1, 1] F_M_plansOne
theorem ok_M_plansOne : MOK y_M_plansOne prog_14_method_68_code 3 none 5 0 0 D_M_plansOne := MOK.of (by decide) (by decide) (show SO Y_M_plansOne [(0, 1), (1, 1)] [(0, 1), (1, 1), (2, 1)] 0 153 (([], 0), ([], 0)) F_M_plansOne from
  (s_seq (sl1 := [(0, 1), (1, 1)]) (p1 := 11) (s_ast (p1 := 4) (p2 := 5) (p3 := 10) (e_gR (k0 := 53) (p1 := 1) cf_12 (e_aload_n (k0 := 0) d_M_plansOne_0 rfl rfl) (by decide) tw_1413 d_M_plansOne_1) (e_iload_n (k0 := 1) d_M_plansOne_4 rfl rfl) (e_cI (p1 := 7) (a_cons (ι := Value.ref) (k0 := 1) (p1 := 6) (fun _ => rfl) (e_aload_n (k0 := 0) d_M_plansOne_5 rfl rfl) (a_cons (ι := Value.int) (k0 := 1) (p1 := 7) (fun _ => rfl) (e_iload_n (k0 := 1) d_M_plansOne_6 rfl rfl) a_nil)) (k_virt ok_M_standsOf mf_M_standsOf ⟨tw_1755, tw_84⟩ rfl tw_1753 d_M_plansOne_7 (by decide) (by decide) (by decide))) (as_i d_M_plansOne_10)) (s_seq (sl1 := [(0, 1), (1, 1)]) (p1 := 22) (s_ast (p1 := 15) (p2 := 16) (p3 := 21) (e_gR (k0 := 54) (p1 := 12) cf_12 (e_aload_n (k0 := 0) d_M_plansOne_11 rfl rfl) (by decide) tw_1414 d_M_plansOne_12) (e_iload_n (k0 := 1) d_M_plansOne_15 rfl rfl) (e_cI (p1 := 18) (a_cons (ι := Value.ref) (k0 := 1) (p1 := 17) (fun _ => rfl) (e_aload_n (k0 := 0) d_M_plansOne_16 rfl rfl) (a_cons (ι := Value.int) (k0 := 1) (p1 := 18) (fun _ => rfl) (e_iload_n (k0 := 1) d_M_plansOne_17 rfl rfl) a_nil)) (k_virt ok_M_choiceGain mf_M_choiceGain ⟨tw_1850, tw_99⟩ rfl tw_1848 d_M_plansOne_18 (by decide) (by decide) (by decide))) (as_i d_M_plansOne_21)) (s_seq (sl1 := [(0, 1), (1, 1)]) (p1 := 78) (s_ast (p1 := 26) (p2 := 27) (p3 := 77) (e_gR (k0 := 55) (p1 := 23) cf_12 (e_aload_n (k0 := 0) d_M_plansOne_22 rfl rfl) (by decide) tw_1415 d_M_plansOne_23) (e_iload_n (k0 := 1) d_M_plansOne_26 rfl rfl) (e_ite (pt := 35) (p1 := 51) (pf := 54) (c_if_eqF (p1 := 32) (tg := 54) (e_cI (p1 := 29) (a_cons (ι := Value.ref) (k0 := 1) (p1 := 28) (fun _ => rfl) (e_aload_n (k0 := 0) d_M_plansOne_27 rfl rfl) (a_cons (ι := Value.int) (k0 := 1) (p1 := 29) (fun _ => rfl) (e_iload_n (k0 := 1) d_M_plansOne_28 rfl rfl) a_nil)) (k_virt ok_M_doesKeep mf_M_doesKeep ⟨tw_1786, tw_91⟩ rfl tw_1784 d_M_plansOne_29 (by decide) (by decide) (by decide))) d_M_plansOne_32 rfl) (e_cI (p1 := 48) (a_cons (ι := Value.int) (k0 := 1) (p1 := 45) (fun _ => rfl) (e_isub (p1 := 43) (p2 := 44) (e_iald (p1 := 39) (p2 := 42) (e_gR (k0 := 48) (p1 := 36) cf_12 (e_aload_n (k0 := 0) d_M_plansOne_35 rfl rfl) (by decide) tw_1408 d_M_plansOne_36) (e_iadd (p1 := 40) (p2 := 41) (e_iconst d_M_plansOne_39 (by decide)) (e_iload_n (k0 := 1) d_M_plansOne_40 rfl rfl) d_M_plansOne_41) d_M_plansOne_42) (e_iconst d_M_plansOne_43 (by decide)) d_M_plansOne_44) (a_cons (ι := Value.int) (k0 := 1) (p1 := 46) (fun _ => rfl) (e_iconst d_M_plansOne_45 (by decide)) (a_cons (ι := Value.int) (k0 := 1) (p1 := 48) (fun _ => rfl) (e_bipush d_M_plansOne_46 (by decide)) a_nil))) (k_stat ok_M_within mf_M_within tw_1778 tw_1777 d_M_plansOne_48 (by decide) (by decide) (by decide))) d_M_plansOne_51 rfl (e_cI (p1 := 74) (a_cons (ι := Value.int) (k0 := 1) (p1 := 64) (fun _ => rfl) (e_iadd (p1 := 62) (p2 := 63) (e_iald (p1 := 58) (p2 := 61) (e_gR (k0 := 48) (p1 := 55) cf_12 (e_aload_n (k0 := 0) d_M_plansOne_54 rfl rfl) (by decide) tw_1408 d_M_plansOne_55) (e_iadd (p1 := 59) (p2 := 60) (e_iconst d_M_plansOne_58 (by decide)) (e_iload_n (k0 := 1) d_M_plansOne_59 rfl rfl) d_M_plansOne_60) d_M_plansOne_61) (e_iconst d_M_plansOne_62 (by decide)) d_M_plansOne_63) (a_cons (ι := Value.int) (k0 := 1) (p1 := 65) (fun _ => rfl) (e_iconst d_M_plansOne_64 (by decide)) (a_cons (ι := Value.int) (k0 := 1) (p1 := 74) (fun _ => rfl) (e_iald (p1 := 69) (p2 := 73) (e_gR (k0 := 48) (p1 := 66) cf_12 (e_aload_n (k0 := 0) d_M_plansOne_65 rfl rfl) (by decide) tw_1408 d_M_plansOne_66) (e_iadd (p1 := 71) (p2 := 72) (e_bipush d_M_plansOne_69 (by decide)) (e_iload_n (k0 := 1) d_M_plansOne_71 rfl rfl) d_M_plansOne_72) d_M_plansOne_73) a_nil))) (k_stat ok_M_within mf_M_within tw_1778 tw_1777 d_M_plansOne_74 (by decide) (by decide) (by decide)))) (as_i d_M_plansOne_77)) (s_seq (sl1 := [(0, 1), (1, 1), (2, 1)]) (p1 := 115) (s_decl (p1 := 114) (e_bool (pt := 109) (pf := 113) (c_and (p1 := 85) (c_not (c_if_neT (p1 := 82) (tg := 113) (e_gI (k0 := 50) (p1 := 79) cf_12 (e_aload_n (k0 := 0) d_M_plansOne_78 rfl rfl) (by decide) tw_1410 d_M_plansOne_79) d_M_plansOne_82 rfl)) (c_icmp_geF (p1 := 101) (p2 := 106) (tg := 113) (e_cI (p1 := 98) (a_cons (ι := Value.ref) (k0 := 1) (p1 := 86) (fun _ => rfl) (e_aload_n (k0 := 0) d_M_plansOne_85 rfl rfl) (a_cons (ι := Value.int) (k0 := 1) (p1 := 98) (fun _ => rfl) (e_iadd (p1 := 96) (p2 := 97) (e_imul (p1 := 88) (p2 := 95) (e_bipush d_M_plansOne_86 (by decide)) (e_iald (p1 := 92) (p2 := 94) (e_gR (k0 := 48) (p1 := 89) cf_12 (e_aload_n (k0 := 0) d_M_plansOne_88 rfl rfl) (by decide) tw_1408 d_M_plansOne_89) (e_bipush d_M_plansOne_92 (by decide)) d_M_plansOne_94) d_M_plansOne_95) (e_iload_n (k0 := 1) d_M_plansOne_96 rfl rfl) d_M_plansOne_97) a_nil)) (k_virt ok_M_lotOf mf_M_lotOf ⟨tw_1858, tw_101⟩ rfl tw_1856 d_M_plansOne_98 (by decide) (by decide) (by decide))) (e_cI (p1 := 103) (a_cons (ι := Value.ref) (k0 := 1) (p1 := 102) (fun _ => rfl) (e_aload_n (k0 := 0) d_M_plansOne_101 rfl rfl) (a_cons (ι := Value.int) (k0 := 1) (p1 := 103) (fun _ => rfl) (e_iload_n (k0 := 1) d_M_plansOne_102 rfl rfl) a_nil)) (k_virt ok_M_turnsOf mf_M_turnsOf ⟨tw_1790, tw_92⟩ rfl tw_1788 d_M_plansOne_103 (by decide) (by decide) (by decide))) d_M_plansOne_106 rfl)) d_M_plansOne_109 d_M_plansOne_110 rfl d_M_plansOne_113 rfl) (t_istore_n d_M_plansOne_114 rfl (by decide)) rfl) (s_seq (sl1 := [(0, 1), (1, 1), (2, 1)]) (p1 := 152) (s_ast (p1 := 119) (p2 := 120) (p3 := 151) (e_gR (k0 := 56) (p1 := 116) cf_12 (e_aload_n (k0 := 0) d_M_plansOne_115 rfl rfl) (by decide) tw_1416 d_M_plansOne_116) (e_iload_n (k0 := 1) d_M_plansOne_119 rfl rfl) (e_ite (pt := 124) (p1 := 142) (pf := 145) (c_if_eqF (p1 := 121) (tg := 145) (e_iload_n (k0 := 2) d_M_plansOne_120 rfl rfl) d_M_plansOne_121 rfl) (e_irem (p1 := 132) (p2 := 141) (e_iadd (p1 := 130) (p2 := 131) (e_iald (p1 := 128) (p2 := 129) (e_gR (k0 := 48) (p1 := 125) cf_12 (e_aload_n (k0 := 0) d_M_plansOne_124 rfl rfl) (by decide) tw_1408 d_M_plansOne_125) (e_iload_n (k0 := 1) d_M_plansOne_128 rfl rfl) d_M_plansOne_129) (e_iconst d_M_plansOne_130 (by decide)) d_M_plansOne_131) (e_iald (p1 := 136) (p2 := 140) (e_gR (k0 := 23) (p1 := 133) cf_12 (e_aload_n (k0 := 0) d_M_plansOne_132 rfl rfl) (by decide) tw_1383 d_M_plansOne_133) (e_gI (k0 := 18) (p1 := 137) cf_12 (e_aload_n (k0 := 0) d_M_plansOne_136 rfl rfl) (by decide) tw_1378 d_M_plansOne_137) d_M_plansOne_140) d_M_plansOne_141) d_M_plansOne_142 rfl (e_iald (p1 := 149) (p2 := 150) (e_gR (k0 := 48) (p1 := 146) cf_12 (e_aload_n (k0 := 0) d_M_plansOne_145 rfl rfl) (by decide) tw_1408 d_M_plansOne_146) (e_iload_n (k0 := 1) d_M_plansOne_149 rfl rfl) d_M_plansOne_150)) (as_i d_M_plansOne_151)) (s_retV rfl d_M_plansOne_152)))))))
/-! BlinkerCrossModel.dayGoes()V -/
abbrev y_M_dayGoes : MethodName := ⟨"BlinkerCrossModel", "dayGoes", "()V"⟩
abbrev Y_M_dayGoes : Yt := (prog_14_method_69_code, 2, "BlinkerCrossModel", 6, none, "dayGoes")
theorem d_M_dayGoes_0 : decode prog_14_method_69_code 0 = .ok (.iconst 0, 1) := by decide +kernel
theorem d_M_dayGoes_1 : decode prog_14_method_69_code 1 = .ok (.istore_n 1, 1) := by decide +kernel
theorem d_M_dayGoes_2 : decode prog_14_method_69_code 2 = .ok (.iload_n 1, 1) := by decide +kernel
theorem d_M_dayGoes_3 : decode prog_14_method_69_code 3 = .ok (.aload_n 0, 1) := by decide +kernel
theorem d_M_dayGoes_4 : decode prog_14_method_69_code 4 = .ok (.getfield 52, 3) := by decide +kernel
theorem d_M_dayGoes_7 : decode prog_14_method_69_code 7 = .ok (.aload_n 0, 1) := by decide +kernel
theorem d_M_dayGoes_8 : decode prog_14_method_69_code 8 = .ok (.getfield 242, 3) := by decide +kernel
theorem d_M_dayGoes_11 : decode prog_14_method_69_code 11 = .ok (.iaload, 1) := by decide +kernel
theorem d_M_dayGoes_12 : decode prog_14_method_69_code 12 = .ok (.if_icmp .ge 14, 3) := by decide +kernel
theorem d_M_dayGoes_15 : decode prog_14_method_69_code 15 = .ok (.aload_n 0, 1) := by decide +kernel
theorem d_M_dayGoes_16 : decode prog_14_method_69_code 16 = .ok (.iload_n 1, 1) := by decide +kernel
theorem d_M_dayGoes_17 : decode prog_14_method_69_code 17 = .ok (.invokevirtual 406, 3) := by decide +kernel
theorem d_M_dayGoes_20 : decode prog_14_method_69_code 20 = .ok (.iinc 1 1, 3) := by decide +kernel
theorem d_M_dayGoes_23 : decode prog_14_method_69_code 23 = .ok (.goto (-21), 3) := by decide +kernel
theorem d_M_dayGoes_26 : decode prog_14_method_69_code 26 = .ok (.iconst 0, 1) := by decide +kernel
theorem d_M_dayGoes_27 : decode prog_14_method_69_code 27 = .ok (.istore_n 1, 1) := by decide +kernel
theorem d_M_dayGoes_28 : decode prog_14_method_69_code 28 = .ok (.iload_n 1, 1) := by decide +kernel
theorem d_M_dayGoes_29 : decode prog_14_method_69_code 29 = .ok (.aload_n 0, 1) := by decide +kernel
theorem d_M_dayGoes_30 : decode prog_14_method_69_code 30 = .ok (.getfield 52, 3) := by decide +kernel
theorem d_M_dayGoes_33 : decode prog_14_method_69_code 33 = .ok (.aload_n 0, 1) := by decide +kernel
theorem d_M_dayGoes_34 : decode prog_14_method_69_code 34 = .ok (.getfield 242, 3) := by decide +kernel
theorem d_M_dayGoes_37 : decode prog_14_method_69_code 37 = .ok (.iaload, 1) := by decide +kernel
theorem d_M_dayGoes_38 : decode prog_14_method_69_code 38 = .ok (.if_icmp .ge 71, 3) := by decide +kernel
theorem d_M_dayGoes_41 : decode prog_14_method_69_code 41 = .ok (.aload_n 0, 1) := by decide +kernel
theorem d_M_dayGoes_42 : decode prog_14_method_69_code 42 = .ok (.getfield 110, 3) := by decide +kernel
theorem d_M_dayGoes_45 : decode prog_14_method_69_code 45 = .ok (.iload_n 1, 1) := by decide +kernel
theorem d_M_dayGoes_46 : decode prog_14_method_69_code 46 = .ok (.aload_n 0, 1) := by decide +kernel
theorem d_M_dayGoes_47 : decode prog_14_method_69_code 47 = .ok (.getfield 125, 3) := by decide +kernel
theorem d_M_dayGoes_50 : decode prog_14_method_69_code 50 = .ok (.iload_n 1, 1) := by decide +kernel
theorem d_M_dayGoes_51 : decode prog_14_method_69_code 51 = .ok (.iaload, 1) := by decide +kernel
theorem d_M_dayGoes_52 : decode prog_14_method_69_code 52 = .ok (.iastore, 1) := by decide +kernel
theorem d_M_dayGoes_53 : decode prog_14_method_69_code 53 = .ok (.aload_n 0, 1) := by decide +kernel
theorem d_M_dayGoes_54 : decode prog_14_method_69_code 54 = .ok (.getfield 110, 3) := by decide +kernel
theorem d_M_dayGoes_57 : decode prog_14_method_69_code 57 = .ok (.iconst 5, 1) := by decide +kernel
theorem d_M_dayGoes_58 : decode prog_14_method_69_code 58 = .ok (.iload_n 1, 1) := by decide +kernel
theorem d_M_dayGoes_59 : decode prog_14_method_69_code 59 = .ok (.iadd, 1) := by decide +kernel
theorem d_M_dayGoes_60 : decode prog_14_method_69_code 60 = .ok (.aload_n 0, 1) := by decide +kernel
theorem d_M_dayGoes_61 : decode prog_14_method_69_code 61 = .ok (.getfield 122, 3) := by decide +kernel
theorem d_M_dayGoes_64 : decode prog_14_method_69_code 64 = .ok (.iload_n 1, 1) := by decide +kernel
theorem d_M_dayGoes_65 : decode prog_14_method_69_code 65 = .ok (.iaload, 1) := by decide +kernel
theorem d_M_dayGoes_66 : decode prog_14_method_69_code 66 = .ok (.iastore, 1) := by decide +kernel
theorem d_M_dayGoes_67 : decode prog_14_method_69_code 67 = .ok (.aload_n 0, 1) := by decide +kernel
theorem d_M_dayGoes_68 : decode prog_14_method_69_code 68 = .ok (.getfield 110, 3) := by decide +kernel
theorem d_M_dayGoes_71 : decode prog_14_method_69_code 71 = .ok (.bipush 15, 2) := by decide +kernel
theorem d_M_dayGoes_73 : decode prog_14_method_69_code 73 = .ok (.iload_n 1, 1) := by decide +kernel
theorem d_M_dayGoes_74 : decode prog_14_method_69_code 74 = .ok (.iadd, 1) := by decide +kernel
theorem d_M_dayGoes_75 : decode prog_14_method_69_code 75 = .ok (.dup2, 1) := by decide +kernel
theorem d_M_dayGoes_76 : decode prog_14_method_69_code 76 = .ok (.iaload, 1) := by decide +kernel
theorem d_M_dayGoes_77 : decode prog_14_method_69_code 77 = .ok (.aload_n 0, 1) := by decide +kernel
theorem d_M_dayGoes_78 : decode prog_14_method_69_code 78 = .ok (.getfield 116, 3) := by decide +kernel
theorem d_M_dayGoes_81 : decode prog_14_method_69_code 81 = .ok (.iload_n 1, 1) := by decide +kernel
theorem d_M_dayGoes_82 : decode prog_14_method_69_code 82 = .ok (.iaload, 1) := by decide +kernel
theorem d_M_dayGoes_83 : decode prog_14_method_69_code 83 = .ok (.iadd, 1) := by decide +kernel
theorem d_M_dayGoes_84 : decode prog_14_method_69_code 84 = .ok (.iastore, 1) := by decide +kernel
theorem d_M_dayGoes_85 : decode prog_14_method_69_code 85 = .ok (.aload_n 0, 1) := by decide +kernel
theorem d_M_dayGoes_86 : decode prog_14_method_69_code 86 = .ok (.getfield 110, 3) := by decide +kernel
theorem d_M_dayGoes_89 : decode prog_14_method_69_code 89 = .ok (.bipush 20, 2) := by decide +kernel
theorem d_M_dayGoes_91 : decode prog_14_method_69_code 91 = .ok (.iload_n 1, 1) := by decide +kernel
theorem d_M_dayGoes_92 : decode prog_14_method_69_code 92 = .ok (.iadd, 1) := by decide +kernel
theorem d_M_dayGoes_93 : decode prog_14_method_69_code 93 = .ok (.dup2, 1) := by decide +kernel
theorem d_M_dayGoes_94 : decode prog_14_method_69_code 94 = .ok (.iaload, 1) := by decide +kernel
theorem d_M_dayGoes_95 : decode prog_14_method_69_code 95 = .ok (.aload_n 0, 1) := by decide +kernel
theorem d_M_dayGoes_96 : decode prog_14_method_69_code 96 = .ok (.getfield 119, 3) := by decide +kernel
theorem d_M_dayGoes_99 : decode prog_14_method_69_code 99 = .ok (.iload_n 1, 1) := by decide +kernel
theorem d_M_dayGoes_100 : decode prog_14_method_69_code 100 = .ok (.iaload, 1) := by decide +kernel
theorem d_M_dayGoes_101 : decode prog_14_method_69_code 101 = .ok (.iadd, 1) := by decide +kernel
theorem d_M_dayGoes_102 : decode prog_14_method_69_code 102 = .ok (.iastore, 1) := by decide +kernel
theorem d_M_dayGoes_103 : decode prog_14_method_69_code 103 = .ok (.iinc 1 1, 3) := by decide +kernel
theorem d_M_dayGoes_106 : decode prog_14_method_69_code 106 = .ok (.goto (-78), 3) := by decide +kernel
theorem d_M_dayGoes_109 : decode prog_14_method_69_code 109 = .ok (.aload_n 0, 1) := by decide +kernel
theorem d_M_dayGoes_110 : decode prog_14_method_69_code 110 = .ok (.getfield 110, 3) := by decide +kernel
theorem d_M_dayGoes_113 : decode prog_14_method_69_code 113 = .ok (.bipush 55, 2) := by decide +kernel
theorem d_M_dayGoes_115 : decode prog_14_method_69_code 115 = .ok (.dup2, 1) := by decide +kernel
theorem d_M_dayGoes_116 : decode prog_14_method_69_code 116 = .ok (.iaload, 1) := by decide +kernel
theorem d_M_dayGoes_117 : decode prog_14_method_69_code 117 = .ok (.iconst 1, 1) := by decide +kernel
theorem d_M_dayGoes_118 : decode prog_14_method_69_code 118 = .ok (.iadd, 1) := by decide +kernel
theorem d_M_dayGoes_119 : decode prog_14_method_69_code 119 = .ok (.iastore, 1) := by decide +kernel
theorem d_M_dayGoes_120 : decode prog_14_method_69_code 120 = .ok (.aload_n 0, 1) := by decide +kernel
theorem d_M_dayGoes_121 : decode prog_14_method_69_code 121 = .ok (.invokevirtual 354, 3) := by decide +kernel
theorem d_M_dayGoes_124 : decode prog_14_method_69_code 124 = .ok (.return_, 1) := by decide +kernel
noncomputable def Lc_M_dayGoes_1 : Xp Bool := o2 (fun x y => decide (x < y)) (vI 1) (aI 0 (gR 12 25 (vR 0)) (gI 12 18 (vR 0)))
noncomputable def Lb_M_dayGoes_1 : Sm := sCall (mV 12 D_M_plansOne) [asV Value.ref (vR 0), asV Value.int (vI 1)]
noncomputable def Lu_M_dayGoes_1 : Sm := sInc 1 (ii 1)
noncomputable def Lc_M_dayGoes_2 : Xp Bool := o2 (fun x y => decide (x < y)) (vI 1) (aI 0 (gR 12 25 (vR 0)) (gI 12 18 (vR 0)))
noncomputable def Lb_M_dayGoes_2 : Sm := sSeq (sAst 0 (gR 12 48 (vR 0)) (vI 1) (aI 0 (gR 12 56 (vR 0)) (vI 1))) (sSeq (sAst 0 (gR 12 48 (vR 0)) (o2 (fun x y => x + y) (kI (ii 5)) (vI 1)) (aI 0 (gR 12 55 (vR 0)) (vI 1))) (sSeq (sAop 0 (gR 12 48 (vR 0)) (o2 (fun x y => x + y) (kI (ii 15)) (vI 1)) (fun x y => x + y) (aI 0 (gR 12 53 (vR 0)) (vI 1))) (sAop 0 (gR 12 48 (vR 0)) (o2 (fun x y => x + y) (kI (ii 20)) (vI 1)) (fun x y => x + y) (aI 0 (gR 12 54 (vR 0)) (vI 1)))))
noncomputable def Lu_M_dayGoes_2 : Sm := sInc 1 (ii 1)
noncomputable def F_M_dayGoes : Sm := sSeq (sBlk 1 (sSeq (sDecl (asV Value.int (kI (ii 0)))) (sWh (Lc_M_dayGoes_1) (Lb_M_dayGoes_1) Lu_M_dayGoes_1))) (sSeq (sBlk 1 (sSeq (sDecl (asV Value.int (kI (ii 0)))) (sWh (Lc_M_dayGoes_2) (Lb_M_dayGoes_2) Lu_M_dayGoes_2))) (sSeq (sAop 0 (gR 12 48 (vR 0)) (kI (ii 55)) (fun x y => x + y) (kI (ii 1))) (sSeq (sCall (mV 12 D_M_fillsChoices) [asV Value.ref (vR 0)]) (sRetV))))
theorem mf_M_dayGoes : Mf y_M_dayGoes prog_14_method_69_code 2 none 0 := ⟨tw_1843, tw_134, by decide +kernel⟩
noncomputable def D_M_dayGoes : Dn := runS [1] F_M_dayGoes
theorem ok_M_dayGoes : MOK y_M_dayGoes prog_14_method_69_code 2 none 6 0 0 D_M_dayGoes := MOK.of (by decide) (by decide) (show SO Y_M_dayGoes [(0, 1)] [(0, 1)] 0 125 (([], 0), ([], 0)) F_M_dayGoes from
  (s_seq (sl1 := [(0, 1)]) (p1 := 26) (s_blk (sl1 := [(0, 1), (1, 1)]) (s_seq (sl1 := [(0, 1), (1, 1)]) (p1 := 2) (s_decl (p1 := 1) (e_iconst d_M_dayGoes_0 (by decide)) (t_istore_n d_M_dayGoes_1 rfl (by decide)) rfl) (s_for (pt := 15) (pu := 20) (pf := 26) (pg := 0) (c_icmp_geF (p1 := 3) (p2 := 12) (tg := 26) (e_iload_n (k0 := 1) d_M_dayGoes_2 rfl rfl) (e_iald (p1 := 7) (p2 := 11) (e_gR (k0 := 25) (p1 := 4) cf_12 (e_aload_n (k0 := 0) d_M_dayGoes_3 rfl rfl) (by decide) tw_1385 d_M_dayGoes_4) (e_gI (k0 := 18) (p1 := 8) cf_12 (e_aload_n (k0 := 0) d_M_dayGoes_7 rfl rfl) (by decide) tw_1378 d_M_dayGoes_8) d_M_dayGoes_11) d_M_dayGoes_12 rfl) (s_call (p1 := 17) (a_cons (ι := Value.ref) (k0 := 1) (p1 := 16) (fun _ => rfl) (e_aload_n (k0 := 0) d_M_dayGoes_15 rfl rfl) (a_cons (ι := Value.int) (k0 := 1) (p1 := 17) (fun _ => rfl) (e_iload_n (k0 := 1) d_M_dayGoes_16 rfl rfl) a_nil)) (k_virt ok_M_plansOne mf_M_plansOne ⟨tw_1846, tw_98⟩ rfl tw_1844 d_M_dayGoes_17 (by decide) (by decide) (by decide))) (s_goto (p1 := 23) (s_inc (k0 := 1) d_M_dayGoes_20 rfl rfl (Nat.le_of_ble_eq_true rfl) rfl) d_M_dayGoes_23 rfl))) rfl) (s_seq (sl1 := [(0, 1)]) (p1 := 109) (s_blk (sl1 := [(0, 1), (1, 1)]) (s_seq (sl1 := [(0, 1), (1, 1)]) (p1 := 28) (s_decl (p1 := 27) (e_iconst d_M_dayGoes_26 (by decide)) (t_istore_n d_M_dayGoes_27 rfl (by decide)) rfl) (s_for (pt := 41) (pu := 103) (pf := 109) (pg := 0) (c_icmp_geF (p1 := 29) (p2 := 38) (tg := 109) (e_iload_n (k0 := 1) d_M_dayGoes_28 rfl rfl) (e_iald (p1 := 33) (p2 := 37) (e_gR (k0 := 25) (p1 := 30) cf_12 (e_aload_n (k0 := 0) d_M_dayGoes_29 rfl rfl) (by decide) tw_1385 d_M_dayGoes_30) (e_gI (k0 := 18) (p1 := 34) cf_12 (e_aload_n (k0 := 0) d_M_dayGoes_33 rfl rfl) (by decide) tw_1378 d_M_dayGoes_34) d_M_dayGoes_37) d_M_dayGoes_38 rfl) (s_seq (sl1 := [(0, 1), (1, 1)]) (p1 := 53) (s_ast (p1 := 45) (p2 := 46) (p3 := 52) (e_gR (k0 := 48) (p1 := 42) cf_12 (e_aload_n (k0 := 0) d_M_dayGoes_41 rfl rfl) (by decide) tw_1408 d_M_dayGoes_42) (e_iload_n (k0 := 1) d_M_dayGoes_45 rfl rfl) (e_iald (p1 := 50) (p2 := 51) (e_gR (k0 := 56) (p1 := 47) cf_12 (e_aload_n (k0 := 0) d_M_dayGoes_46 rfl rfl) (by decide) tw_1416 d_M_dayGoes_47) (e_iload_n (k0 := 1) d_M_dayGoes_50 rfl rfl) d_M_dayGoes_51) (as_i d_M_dayGoes_52)) (s_seq (sl1 := [(0, 1), (1, 1)]) (p1 := 67) (s_ast (p1 := 57) (p2 := 60) (p3 := 66) (e_gR (k0 := 48) (p1 := 54) cf_12 (e_aload_n (k0 := 0) d_M_dayGoes_53 rfl rfl) (by decide) tw_1408 d_M_dayGoes_54) (e_iadd (p1 := 58) (p2 := 59) (e_iconst d_M_dayGoes_57 (by decide)) (e_iload_n (k0 := 1) d_M_dayGoes_58 rfl rfl) d_M_dayGoes_59) (e_iald (p1 := 64) (p2 := 65) (e_gR (k0 := 55) (p1 := 61) cf_12 (e_aload_n (k0 := 0) d_M_dayGoes_60 rfl rfl) (by decide) tw_1415 d_M_dayGoes_61) (e_iload_n (k0 := 1) d_M_dayGoes_64 rfl rfl) d_M_dayGoes_65) (as_i d_M_dayGoes_66)) (s_seq (sl1 := [(0, 1), (1, 1)]) (p1 := 85) (s_aop (p1 := 71) (p2 := 75) (p3 := 83) (e_gR (k0 := 48) (p1 := 68) cf_12 (e_aload_n (k0 := 0) d_M_dayGoes_67 rfl rfl) (by decide) tw_1408 d_M_dayGoes_68) (e_iadd (p1 := 73) (p2 := 74) (e_bipush d_M_dayGoes_71 (by decide)) (e_iload_n (k0 := 1) d_M_dayGoes_73 rfl rfl) d_M_dayGoes_74) d_M_dayGoes_75 (ad_i d_M_dayGoes_76) (e_iald (p1 := 81) (p2 := 82) (e_gR (k0 := 53) (p1 := 78) cf_12 (e_aload_n (k0 := 0) d_M_dayGoes_77 rfl rfl) (by decide) tw_1413 d_M_dayGoes_78) (e_iload_n (k0 := 1) d_M_dayGoes_81 rfl rfl) d_M_dayGoes_82) (op_iadd d_M_dayGoes_83) (as_i d_M_dayGoes_84)) (s_aop (p1 := 89) (p2 := 93) (p3 := 101) (e_gR (k0 := 48) (p1 := 86) cf_12 (e_aload_n (k0 := 0) d_M_dayGoes_85 rfl rfl) (by decide) tw_1408 d_M_dayGoes_86) (e_iadd (p1 := 91) (p2 := 92) (e_bipush d_M_dayGoes_89 (by decide)) (e_iload_n (k0 := 1) d_M_dayGoes_91 rfl rfl) d_M_dayGoes_92) d_M_dayGoes_93 (ad_i d_M_dayGoes_94) (e_iald (p1 := 99) (p2 := 100) (e_gR (k0 := 54) (p1 := 96) cf_12 (e_aload_n (k0 := 0) d_M_dayGoes_95 rfl rfl) (by decide) tw_1414 d_M_dayGoes_96) (e_iload_n (k0 := 1) d_M_dayGoes_99 rfl rfl) d_M_dayGoes_100) (op_iadd d_M_dayGoes_101) (as_i d_M_dayGoes_102))))) (s_goto (p1 := 106) (s_inc (k0 := 1) d_M_dayGoes_103 rfl rfl (Nat.le_of_ble_eq_true rfl) rfl) d_M_dayGoes_106 rfl))) rfl) (s_seq (sl1 := [(0, 1)]) (p1 := 120) (s_aop (p1 := 113) (p2 := 115) (p3 := 118) (e_gR (k0 := 48) (p1 := 110) cf_12 (e_aload_n (k0 := 0) d_M_dayGoes_109 rfl rfl) (by decide) tw_1408 d_M_dayGoes_110) (e_bipush d_M_dayGoes_113 (by decide)) d_M_dayGoes_115 (ad_i d_M_dayGoes_116) (e_iconst d_M_dayGoes_117 (by decide)) (op_iadd d_M_dayGoes_118) (as_i d_M_dayGoes_119)) (s_seq (sl1 := [(0, 1)]) (p1 := 124) (s_call (p1 := 121) (a_cons (ι := Value.ref) (k0 := 1) (p1 := 121) (fun _ => rfl) (e_aload_n (k0 := 0) d_M_dayGoes_120 rfl rfl) a_nil) (k_virt ok_M_fillsChoices mf_M_fillsChoices ⟨tw_1711, tw_74⟩ rfl tw_1709 d_M_dayGoes_121 (by decide) (by decide) (by decide))) (s_retV rfl d_M_dayGoes_124))))))
/-! BlinkerCrossModel.goes(I)V -/
abbrev y_M_goes : MethodName := ⟨"BlinkerCrossModel", "goes", "(I)V"⟩
abbrev Y_M_goes : Yt := (prog_14_method_70_code, 3, "BlinkerCrossModel", 7, none, "goes")
theorem d_M_goes_0 : decode prog_14_method_70_code 0 = .ok (.iconst 0, 1) := by decide +kernel
theorem d_M_goes_1 : decode prog_14_method_70_code 1 = .ok (.istore_n 2, 1) := by decide +kernel
theorem d_M_goes_2 : decode prog_14_method_70_code 2 = .ok (.iload_n 2, 1) := by decide +kernel
theorem d_M_goes_3 : decode prog_14_method_70_code 3 = .ok (.iload_n 1, 1) := by decide +kernel
theorem d_M_goes_4 : decode prog_14_method_70_code 4 = .ok (.if_icmp .ge 13, 3) := by decide +kernel
theorem d_M_goes_7 : decode prog_14_method_70_code 7 = .ok (.aload_n 0, 1) := by decide +kernel
theorem d_M_goes_8 : decode prog_14_method_70_code 8 = .ok (.invokevirtual 409, 3) := by decide +kernel
theorem d_M_goes_11 : decode prog_14_method_70_code 11 = .ok (.iinc 2 1, 3) := by decide +kernel
theorem d_M_goes_14 : decode prog_14_method_70_code 14 = .ok (.goto (-12), 3) := by decide +kernel
theorem d_M_goes_17 : decode prog_14_method_70_code 17 = .ok (.return_, 1) := by decide +kernel
noncomputable def Lc_M_goes_1 : Xp Bool := o2 (fun x y => decide (x < y)) (vI 2) (vI 1)
noncomputable def Lb_M_goes_1 : Sm := sCall (mV 12 D_M_dayGoes) [asV Value.ref (vR 0)]
noncomputable def Lu_M_goes_1 : Sm := sInc 2 (ii 1)
noncomputable def F_M_goes : Sm := sSeq (sBlk 2 (sSeq (sDecl (asV Value.int (kI (ii 0)))) (sWh (Lc_M_goes_1) (Lb_M_goes_1) Lu_M_goes_1))) (sRetV)
theorem mf_M_goes : Mf y_M_goes prog_14_method_70_code 3 none 1 := ⟨tw_1839, tw_134, by decide +kernel⟩
noncomputable def D_M_goes : Dn := runS [1, 1] F_M_goes
theorem ok_M_goes : MOK y_M_goes prog_14_method_70_code 3 none 7 0 0 D_M_goes := MOK.of (by decide) (by decide) (show SO Y_M_goes [(0, 1), (1, 1)] [(0, 1), (1, 1)] 0 18 (([], 0), ([], 0)) F_M_goes from
  (s_seq (sl1 := [(0, 1), (1, 1)]) (p1 := 17) (s_blk (sl1 := [(0, 1), (1, 1), (2, 1)]) (s_seq (sl1 := [(0, 1), (1, 1), (2, 1)]) (p1 := 2) (s_decl (p1 := 1) (e_iconst d_M_goes_0 (by decide)) (t_istore_n d_M_goes_1 rfl (by decide)) rfl) (s_for (pt := 7) (pu := 11) (pf := 17) (pg := 0) (c_icmp_geF (p1 := 3) (p2 := 4) (tg := 17) (e_iload_n (k0 := 2) d_M_goes_2 rfl rfl) (e_iload_n (k0 := 1) d_M_goes_3 rfl rfl) d_M_goes_4 rfl) (s_call (p1 := 8) (a_cons (ι := Value.ref) (k0 := 1) (p1 := 8) (fun _ => rfl) (e_aload_n (k0 := 0) d_M_goes_7 rfl rfl) a_nil) (k_virt ok_M_dayGoes mf_M_dayGoes ⟨tw_1842, tw_97⟩ rfl tw_1840 d_M_goes_8 (by decide) (by decide) (by decide))) (s_goto (p1 := 14) (s_inc (k0 := 2) d_M_goes_11 rfl rfl (Nat.le_of_ble_eq_true rfl) rfl) d_M_goes_14 rfl))) rfl) (s_retV rfl d_M_goes_17)))
/-! BlinkerCrossModel.seersOf(I)I -/
abbrev y_M_seersOf : MethodName := ⟨"BlinkerCrossModel", "seersOf", "(I)I"⟩
abbrev Y_M_seersOf : Yt := (prog_14_method_72_code, 4, "BlinkerCrossModel", 2, (some .int), "seersOf")
theorem d_M_seersOf_0 : decode prog_14_method_72_code 0 = .ok (.iconst 0, 1) := by decide +kernel
theorem d_M_seersOf_1 : decode prog_14_method_72_code 1 = .ok (.istore_n 2, 1) := by decide +kernel
theorem d_M_seersOf_2 : decode prog_14_method_72_code 2 = .ok (.iconst 0, 1) := by decide +kernel
theorem d_M_seersOf_3 : decode prog_14_method_72_code 3 = .ok (.istore_n 3, 1) := by decide +kernel
theorem d_M_seersOf_4 : decode prog_14_method_72_code 4 = .ok (.iload_n 3, 1) := by decide +kernel
theorem d_M_seersOf_5 : decode prog_14_method_72_code 5 = .ok (.aload_n 0, 1) := by decide +kernel
theorem d_M_seersOf_6 : decode prog_14_method_72_code 6 = .ok (.getfield 52, 3) := by decide +kernel
theorem d_M_seersOf_9 : decode prog_14_method_72_code 9 = .ok (.aload_n 0, 1) := by decide +kernel
theorem d_M_seersOf_10 : decode prog_14_method_72_code 10 = .ok (.getfield 242, 3) := by decide +kernel
theorem d_M_seersOf_13 : decode prog_14_method_72_code 13 = .ok (.iaload, 1) := by decide +kernel
theorem d_M_seersOf_14 : decode prog_14_method_72_code 14 = .ok (.if_icmp .ge 23, 3) := by decide +kernel
theorem d_M_seersOf_17 : decode prog_14_method_72_code 17 = .ok (.iload_n 2, 1) := by decide +kernel
theorem d_M_seersOf_18 : decode prog_14_method_72_code 18 = .ok (.aload_n 0, 1) := by decide +kernel
theorem d_M_seersOf_19 : decode prog_14_method_72_code 19 = .ok (.iload_n 3, 1) := by decide +kernel
theorem d_M_seersOf_20 : decode prog_14_method_72_code 20 = .ok (.invokevirtual 370, 3) := by decide +kernel
theorem d_M_seersOf_23 : decode prog_14_method_72_code 23 = .ok (.iload_n 1, 1) := by decide +kernel
theorem d_M_seersOf_24 : decode prog_14_method_72_code 24 = .ok (.ishr, 1) := by decide +kernel
theorem d_M_seersOf_25 : decode prog_14_method_72_code 25 = .ok (.iconst 1, 1) := by decide +kernel
theorem d_M_seersOf_26 : decode prog_14_method_72_code 26 = .ok (.iand, 1) := by decide +kernel
theorem d_M_seersOf_27 : decode prog_14_method_72_code 27 = .ok (.iload_n 3, 1) := by decide +kernel
theorem d_M_seersOf_28 : decode prog_14_method_72_code 28 = .ok (.ishl, 1) := by decide +kernel
theorem d_M_seersOf_29 : decode prog_14_method_72_code 29 = .ok (.ior, 1) := by decide +kernel
theorem d_M_seersOf_30 : decode prog_14_method_72_code 30 = .ok (.istore_n 2, 1) := by decide +kernel
theorem d_M_seersOf_31 : decode prog_14_method_72_code 31 = .ok (.iinc 3 1, 3) := by decide +kernel
theorem d_M_seersOf_34 : decode prog_14_method_72_code 34 = .ok (.goto (-30), 3) := by decide +kernel
theorem d_M_seersOf_37 : decode prog_14_method_72_code 37 = .ok (.iload_n 2, 1) := by decide +kernel
theorem d_M_seersOf_38 : decode prog_14_method_72_code 38 = .ok (.ireturn, 1) := by decide +kernel
noncomputable def Lc_M_seersOf_1 : Xp Bool := o2 (fun x y => decide (x < y)) (vI 3) (aI 0 (gR 12 25 (vR 0)) (gI 12 18 (vR 0)))
noncomputable def Lb_M_seersOf_1 : Sm := sSet 2 (asV Value.int (o2 (fun x y => x ||| y) (vI 2) (o2 (fun (x y : Int32) => x <<< (y &&& 31)) (o2 (fun x y => x &&& y) (o2 (fun (x y : Int32) => x >>> (y &&& 31)) (cI (mV 12 D_M_seenBits) [asV Value.ref (vR 0), asV Value.int (vI 3)]) (vI 1)) (kI (ii 1))) (vI 3))))
noncomputable def Lu_M_seersOf_1 : Sm := sInc 3 (ii 1)
noncomputable def F_M_seersOf : Sm := sSeq (sDecl (asV Value.int (kI (ii 0)))) (sSeq (sBlk 3 (sSeq (sDecl (asV Value.int (kI (ii 0)))) (sWh (Lc_M_seersOf_1) (Lb_M_seersOf_1) Lu_M_seersOf_1))) (sRet (asV Value.int (vI 2))))
theorem mf_M_seersOf : Mf y_M_seersOf prog_14_method_72_code 4 (some .int) 1 := ⟨tw_1740, tw_134, by decide +kernel⟩
noncomputable def D_M_seersOf : Dn := runS [1, 1] F_M_seersOf
theorem ok_M_seersOf : MOK y_M_seersOf prog_14_method_72_code 4 (some .int) 2 0 0 D_M_seersOf := MOK.of (by decide) (by decide) (show SO Y_M_seersOf [(0, 1), (1, 1)] [(0, 1), (1, 1), (2, 1)] 0 39 (([], 0), ([], 0)) F_M_seersOf from
  (s_seq (sl1 := [(0, 1), (1, 1), (2, 1)]) (p1 := 2) (s_decl (p1 := 1) (e_iconst d_M_seersOf_0 (by decide)) (t_istore_n d_M_seersOf_1 rfl (by decide)) rfl) (s_seq (sl1 := [(0, 1), (1, 1), (2, 1)]) (p1 := 37) (s_blk (sl1 := [(0, 1), (1, 1), (2, 1), (3, 1)]) (s_seq (sl1 := [(0, 1), (1, 1), (2, 1), (3, 1)]) (p1 := 4) (s_decl (p1 := 3) (e_iconst d_M_seersOf_2 (by decide)) (t_istore_n d_M_seersOf_3 rfl (by decide)) rfl) (s_for (pt := 17) (pu := 31) (pf := 37) (pg := 0) (c_icmp_geF (p1 := 5) (p2 := 14) (tg := 37) (e_iload_n (k0 := 3) d_M_seersOf_4 rfl rfl) (e_iald (p1 := 9) (p2 := 13) (e_gR (k0 := 25) (p1 := 6) cf_12 (e_aload_n (k0 := 0) d_M_seersOf_5 rfl rfl) (by decide) tw_1385 d_M_seersOf_6) (e_gI (k0 := 18) (p1 := 10) cf_12 (e_aload_n (k0 := 0) d_M_seersOf_9 rfl rfl) (by decide) tw_1378 d_M_seersOf_10) d_M_seersOf_13) d_M_seersOf_14 rfl) (s_set (k0 := 2) (p1 := 30) (e_ior (p1 := 18) (p2 := 29) (e_iload_n (k0 := 2) d_M_seersOf_17 rfl rfl) (e_ishl (p1 := 27) (p2 := 28) (e_iand (p1 := 25) (p2 := 26) (e_ishr (p1 := 23) (p2 := 24) (e_cI (p1 := 20) (a_cons (ι := Value.ref) (k0 := 1) (p1 := 19) (fun _ => rfl) (e_aload_n (k0 := 0) d_M_seersOf_18 rfl rfl) (a_cons (ι := Value.int) (k0 := 1) (p1 := 20) (fun _ => rfl) (e_iload_n (k0 := 3) d_M_seersOf_19 rfl rfl) a_nil)) (k_virt ok_M_seenBits mf_M_seenBits ⟨tw_1743, tw_82⟩ rfl tw_1741 d_M_seersOf_20 (by decide) (by decide) (by decide))) (e_iload_n (k0 := 1) d_M_seersOf_23 rfl rfl) d_M_seersOf_24) (e_iconst d_M_seersOf_25 (by decide)) d_M_seersOf_26) (e_iload_n (k0 := 3) d_M_seersOf_27 rfl rfl) d_M_seersOf_28) d_M_seersOf_29) (t_istore_n d_M_seersOf_30 rfl (by decide)) rfl rfl) (s_goto (p1 := 34) (s_inc (k0 := 3) d_M_seersOf_31 rfl rfl (Nat.le_of_ble_eq_true rfl) rfl) d_M_seersOf_34 rfl))) rfl) (s_ret (p1 := 38) (e_iload_n (k0 := 2) d_M_seersOf_37 rfl rfl) rfl d_M_seersOf_38))))
/-! BlinkerCrossModel.wantsFor(I)I -/
abbrev y_M_wantsFor : MethodName := ⟨"BlinkerCrossModel", "wantsFor", "(I)I"⟩
abbrev Y_M_wantsFor : Yt := (prog_14_method_73_code, 4, "BlinkerCrossModel", 1, (some .int), "wantsFor")
theorem d_M_wantsFor_0 : decode prog_14_method_73_code 0 = .ok (.iconst 0, 1) := by decide +kernel
theorem d_M_wantsFor_1 : decode prog_14_method_73_code 1 = .ok (.istore_n 2, 1) := by decide +kernel
theorem d_M_wantsFor_2 : decode prog_14_method_73_code 2 = .ok (.iconst 0, 1) := by decide +kernel
theorem d_M_wantsFor_3 : decode prog_14_method_73_code 3 = .ok (.istore_n 3, 1) := by decide +kernel
theorem d_M_wantsFor_4 : decode prog_14_method_73_code 4 = .ok (.iload_n 3, 1) := by decide +kernel
theorem d_M_wantsFor_5 : decode prog_14_method_73_code 5 = .ok (.aload_n 0, 1) := by decide +kernel
theorem d_M_wantsFor_6 : decode prog_14_method_73_code 6 = .ok (.getfield 52, 3) := by decide +kernel
theorem d_M_wantsFor_9 : decode prog_14_method_73_code 9 = .ok (.aload_n 0, 1) := by decide +kernel
theorem d_M_wantsFor_10 : decode prog_14_method_73_code 10 = .ok (.getfield 242, 3) := by decide +kernel
theorem d_M_wantsFor_13 : decode prog_14_method_73_code 13 = .ok (.iaload, 1) := by decide +kernel
theorem d_M_wantsFor_14 : decode prog_14_method_73_code 14 = .ok (.if_icmp .ge 18, 3) := by decide +kernel
theorem d_M_wantsFor_17 : decode prog_14_method_73_code 17 = .ok (.iload_n 2, 1) := by decide +kernel
theorem d_M_wantsFor_18 : decode prog_14_method_73_code 18 = .ok (.aload_n 0, 1) := by decide +kernel
theorem d_M_wantsFor_19 : decode prog_14_method_73_code 19 = .ok (.iload_n 3, 1) := by decide +kernel
theorem d_M_wantsFor_20 : decode prog_14_method_73_code 20 = .ok (.iload_n 1, 1) := by decide +kernel
theorem d_M_wantsFor_21 : decode prog_14_method_73_code 21 = .ok (.invokevirtual 342, 3) := by decide +kernel
theorem d_M_wantsFor_24 : decode prog_14_method_73_code 24 = .ok (.iadd, 1) := by decide +kernel
theorem d_M_wantsFor_25 : decode prog_14_method_73_code 25 = .ok (.istore_n 2, 1) := by decide +kernel
theorem d_M_wantsFor_26 : decode prog_14_method_73_code 26 = .ok (.iinc 3 1, 3) := by decide +kernel
theorem d_M_wantsFor_29 : decode prog_14_method_73_code 29 = .ok (.goto (-25), 3) := by decide +kernel
theorem d_M_wantsFor_32 : decode prog_14_method_73_code 32 = .ok (.iload_n 2, 1) := by decide +kernel
theorem d_M_wantsFor_33 : decode prog_14_method_73_code 33 = .ok (.ireturn, 1) := by decide +kernel
noncomputable def Lc_M_wantsFor_1 : Xp Bool := o2 (fun x y => decide (x < y)) (vI 3) (aI 0 (gR 12 25 (vR 0)) (gI 12 18 (vR 0)))
noncomputable def Lb_M_wantsFor_1 : Sm := sSet 2 (asV Value.int (o2 (fun x y => x + y) (vI 2) (cI (mV 12 D_M_wantAt) [asV Value.ref (vR 0), asV Value.int (vI 3), asV Value.int (vI 1)])))
noncomputable def Lu_M_wantsFor_1 : Sm := sInc 3 (ii 1)
noncomputable def F_M_wantsFor : Sm := sSeq (sDecl (asV Value.int (kI (ii 0)))) (sSeq (sBlk 3 (sSeq (sDecl (asV Value.int (kI (ii 0)))) (sWh (Lc_M_wantsFor_1) (Lb_M_wantsFor_1) Lu_M_wantsFor_1))) (sRet (asV Value.int (vI 2))))
theorem mf_M_wantsFor : Mf y_M_wantsFor prog_14_method_73_code 4 (some .int) 1 := ⟨tw_1748, tw_134, by decide +kernel⟩
noncomputable def D_M_wantsFor : Dn := runS [1, 1] F_M_wantsFor
theorem ok_M_wantsFor : MOK y_M_wantsFor prog_14_method_73_code 4 (some .int) 1 0 0 D_M_wantsFor := MOK.of (by decide) (by decide) (show SO Y_M_wantsFor [(0, 1), (1, 1)] [(0, 1), (1, 1), (2, 1)] 0 34 (([], 0), ([], 0)) F_M_wantsFor from
  (s_seq (sl1 := [(0, 1), (1, 1), (2, 1)]) (p1 := 2) (s_decl (p1 := 1) (e_iconst d_M_wantsFor_0 (by decide)) (t_istore_n d_M_wantsFor_1 rfl (by decide)) rfl) (s_seq (sl1 := [(0, 1), (1, 1), (2, 1)]) (p1 := 32) (s_blk (sl1 := [(0, 1), (1, 1), (2, 1), (3, 1)]) (s_seq (sl1 := [(0, 1), (1, 1), (2, 1), (3, 1)]) (p1 := 4) (s_decl (p1 := 3) (e_iconst d_M_wantsFor_2 (by decide)) (t_istore_n d_M_wantsFor_3 rfl (by decide)) rfl) (s_for (pt := 17) (pu := 26) (pf := 32) (pg := 0) (c_icmp_geF (p1 := 5) (p2 := 14) (tg := 32) (e_iload_n (k0 := 3) d_M_wantsFor_4 rfl rfl) (e_iald (p1 := 9) (p2 := 13) (e_gR (k0 := 25) (p1 := 6) cf_12 (e_aload_n (k0 := 0) d_M_wantsFor_5 rfl rfl) (by decide) tw_1385 d_M_wantsFor_6) (e_gI (k0 := 18) (p1 := 10) cf_12 (e_aload_n (k0 := 0) d_M_wantsFor_9 rfl rfl) (by decide) tw_1378 d_M_wantsFor_10) d_M_wantsFor_13) d_M_wantsFor_14 rfl) (s_set (k0 := 2) (p1 := 25) (e_iadd (p1 := 18) (p2 := 24) (e_iload_n (k0 := 2) d_M_wantsFor_17 rfl rfl) (e_cI (p1 := 21) (a_cons (ι := Value.ref) (k0 := 1) (p1 := 19) (fun _ => rfl) (e_aload_n (k0 := 0) d_M_wantsFor_18 rfl rfl) (a_cons (ι := Value.int) (k0 := 1) (p1 := 20) (fun _ => rfl) (e_iload_n (k0 := 3) d_M_wantsFor_19 rfl rfl) (a_cons (ι := Value.int) (k0 := 1) (p1 := 21) (fun _ => rfl) (e_iload_n (k0 := 1) d_M_wantsFor_20 rfl rfl) a_nil))) (k_virt ok_M_wantAt mf_M_wantAt ⟨tw_1731, tw_79⟩ rfl tw_1729 d_M_wantsFor_21 (by decide) (by decide) (by decide))) d_M_wantsFor_24) (t_istore_n d_M_wantsFor_25 rfl (by decide)) rfl rfl) (s_goto (p1 := 29) (s_inc (k0 := 3) d_M_wantsFor_26 rfl rfl (Nat.le_of_ble_eq_true rfl) rfl) d_M_wantsFor_29 rfl))) rfl) (s_ret (p1 := 33) (e_iload_n (k0 := 2) d_M_wantsFor_32 rfl rfl) rfl d_M_wantsFor_33))))
/-! BlinkerCrossModel.road(II)I -/
abbrev y_M_road : MethodName := ⟨"BlinkerCrossModel", "road", "(II)I"⟩
abbrev Y_M_road : Yt := (prog_14_method_71_code, 3, "BlinkerCrossModel", 4, (some .int), "road")
theorem d_M_road_0 : decode prog_14_method_71_code 0 = .ok (.aload_n 0, 1) := by decide +kernel
theorem d_M_road_1 : decode prog_14_method_71_code 1 = .ok (.iload_n 1, 1) := by decide +kernel
theorem d_M_road_2 : decode prog_14_method_71_code 2 = .ok (.invokevirtual 412, 3) := by decide +kernel
theorem d_M_road_5 : decode prog_14_method_71_code 5 = .ok (.ifCond .ne 5, 3) := by decide +kernel
theorem d_M_road_8 : decode prog_14_method_71_code 8 = .ok (.iconst (-1), 1) := by decide +kernel
theorem d_M_road_9 : decode prog_14_method_71_code 9 = .ok (.ireturn, 1) := by decide +kernel
theorem d_M_road_10 : decode prog_14_method_71_code 10 = .ok (.aload_n 0, 1) := by decide +kernel
theorem d_M_road_11 : decode prog_14_method_71_code 11 = .ok (.invokevirtual 357, 3) := by decide +kernel
theorem d_M_road_14 : decode prog_14_method_71_code 14 = .ok (.iload_n 2, 1) := by decide +kernel
theorem d_M_road_15 : decode prog_14_method_71_code 15 = .ok (.tableswitch 62 0 3 #[29, 44, 50, 56], 29) := by decide +kernel
theorem d_M_road_44 : decode prog_14_method_71_code 44 = .ok (.aload_n 0, 1) := by decide +kernel
theorem d_M_road_45 : decode prog_14_method_71_code 45 = .ok (.getfield 49, 3) := by decide +kernel
theorem d_M_road_48 : decode prog_14_method_71_code 48 = .ok (.bipush 6, 2) := by decide +kernel
theorem d_M_road_50 : decode prog_14_method_71_code 50 = .ok (.aload_n 0, 1) := by decide +kernel
theorem d_M_road_51 : decode prog_14_method_71_code 51 = .ok (.getfield 242, 3) := by decide +kernel
theorem d_M_road_54 : decode prog_14_method_71_code 54 = .ok (.imul, 1) := by decide +kernel
theorem d_M_road_55 : decode prog_14_method_71_code 55 = .ok (.iload_n 1, 1) := by decide +kernel
theorem d_M_road_56 : decode prog_14_method_71_code 56 = .ok (.iadd, 1) := by decide +kernel
theorem d_M_road_57 : decode prog_14_method_71_code 57 = .ok (.iaload, 1) := by decide +kernel
theorem d_M_road_58 : decode prog_14_method_71_code 58 = .ok (.ireturn, 1) := by decide +kernel
theorem d_M_road_59 : decode prog_14_method_71_code 59 = .ok (.aload_n 0, 1) := by decide +kernel
theorem d_M_road_60 : decode prog_14_method_71_code 60 = .ok (.iload_n 1, 1) := by decide +kernel
theorem d_M_road_61 : decode prog_14_method_71_code 61 = .ok (.invokevirtual 363, 3) := by decide +kernel
theorem d_M_road_64 : decode prog_14_method_71_code 64 = .ok (.ireturn, 1) := by decide +kernel
theorem d_M_road_65 : decode prog_14_method_71_code 65 = .ok (.aload_n 0, 1) := by decide +kernel
theorem d_M_road_66 : decode prog_14_method_71_code 66 = .ok (.iload_n 1, 1) := by decide +kernel
theorem d_M_road_67 : decode prog_14_method_71_code 67 = .ok (.invokevirtual 415, 3) := by decide +kernel
theorem d_M_road_70 : decode prog_14_method_71_code 70 = .ok (.ireturn, 1) := by decide +kernel
theorem d_M_road_71 : decode prog_14_method_71_code 71 = .ok (.aload_n 0, 1) := by decide +kernel
theorem d_M_road_72 : decode prog_14_method_71_code 72 = .ok (.iload_n 1, 1) := by decide +kernel
theorem d_M_road_73 : decode prog_14_method_71_code 73 = .ok (.invokevirtual 418, 3) := by decide +kernel
theorem d_M_road_76 : decode prog_14_method_71_code 76 = .ok (.ireturn, 1) := by decide +kernel
theorem d_M_road_77 : decode prog_14_method_71_code 77 = .ok (.iconst (-1), 1) := by decide +kernel
theorem d_M_road_78 : decode prog_14_method_71_code 78 = .ok (.ireturn, 1) := by decide +kernel
noncomputable def F_M_road : Sm := sSeq (sIf (cNot (o1 (fun x => decide (x ≠ 0)) (cI (mV 12 D_M_isRoad) [asV Value.ref (vR 0), asV Value.int (vI 1)]))) (sRet (asV Value.int (kI (ii (-1))))) (sSkip)) (sSeq (sCall (mV 12 D_M_copies) [asV Value.ref (vR 0)]) (sSw (vI 2) [(ii 0, sRet (asV Value.int (aI 0 (gR 12 24 (vR 0)) (o2 (fun x y => x + y) (o2 (fun x y => x * y) (kI (ii 6)) (gI 12 18 (vR 0))) (vI 1))))), (ii 1, sRet (asV Value.int (cI (mV 12 D_M_choosing) [asV Value.ref (vR 0), asV Value.int (vI 1)]))), (ii 2, sRet (asV Value.int (cI (mV 12 D_M_seersOf) [asV Value.ref (vR 0), asV Value.int (vI 1)]))), (ii 3, sRet (asV Value.int (cI (mV 12 D_M_wantsFor) [asV Value.ref (vR 0), asV Value.int (vI 1)])))] (sRet (asV Value.int (kI (ii (-1)))))))
theorem mf_M_road : Mf y_M_road prog_14_method_71_code 3 (some .int) 2 := ⟨tw_1697, tw_134, by decide +kernel⟩
noncomputable def D_M_road : Dn := runS [1, 1, 1] F_M_road
set_option maxRecDepth 100000 in
theorem ok_M_road : MOK y_M_road prog_14_method_71_code 3 (some .int) 4 0 0 D_M_road := MOK.of (by decide) (by decide) (show SO Y_M_road [(0, 1), (1, 1), (2, 1)] [(0, 1), (1, 1), (2, 1)] 0 0 (([], 0), ([], 0)) F_M_road from
  (s_seq (sl1 := [(0, 1), (1, 1), (2, 1)]) (p1 := 10) (s_if (pt := 8) (pf := 10) (c_not (c_if_neT (p1 := 5) (tg := 10) (e_cI (p1 := 2) (a_cons (ι := Value.ref) (k0 := 1) (p1 := 1) (fun _ => rfl) (e_aload_n (k0 := 0) d_M_road_0 rfl rfl) (a_cons (ι := Value.int) (k0 := 1) (p1 := 2) (fun _ => rfl) (e_iload_n (k0 := 1) d_M_road_1 rfl rfl) a_nil)) (k_virt ok_M_isRoad mf_M_isRoad ⟨tw_1700, tw_72⟩ rfl tw_1698 d_M_road_2 (by decide) (by decide) (by decide))) d_M_road_5 rfl)) (s_ret (p1 := 9) (e_iconst d_M_road_8 (by decide)) rfl d_M_road_9) s_skip) (s_seq (sl1 := [(0, 1), (1, 1), (2, 1)]) (p1 := 14) (s_call (p1 := 11) (a_cons (ι := Value.ref) (k0 := 1) (p1 := 11) (fun _ => rfl) (e_aload_n (k0 := 0) d_M_road_10 rfl rfl) a_nil) (k_virt ok_M_copies mf_M_copies ⟨tw_1707, tw_73⟩ rfl tw_1705 d_M_road_11 (by decide) (by decide) (by decide))) (s_tab (p1 := 15) (P := [(ii 0, 44), (ii 1, 59), (ii 2, 65), (ii 3, 71)]) (pd := 77) (jc := ([], 0)) (dflt := 62) (lo := 0) (hi := 3) (offs := #[29, 44, 50, 56]) (len := 29) (e_iload_n (k0 := 2) d_M_road_14 rfl rfl) d_M_road_15 (by decide) (by decide +kernel) ⟨rfl, (s_ret (p1 := 58) (e_iald (p1 := 48) (p2 := 57) (e_gR (k0 := 24) (p1 := 45) cf_12 (e_aload_n (k0 := 0) d_M_road_44 rfl rfl) (by decide) tw_1384 d_M_road_45) (e_iadd (p1 := 55) (p2 := 56) (e_imul (p1 := 50) (p2 := 54) (e_bipush d_M_road_48 (by decide)) (e_gI (k0 := 18) (p1 := 51) cf_12 (e_aload_n (k0 := 0) d_M_road_50 rfl rfl) (by decide) tw_1378 d_M_road_51) d_M_road_54) (e_iload_n (k0 := 1) d_M_road_55 rfl rfl) d_M_road_56) d_M_road_57) rfl d_M_road_58), ⟨rfl, (s_ret (p1 := 64) (e_cI (p1 := 61) (a_cons (ι := Value.ref) (k0 := 1) (p1 := 60) (fun _ => rfl) (e_aload_n (k0 := 0) d_M_road_59 rfl rfl) (a_cons (ι := Value.int) (k0 := 1) (p1 := 61) (fun _ => rfl) (e_iload_n (k0 := 1) d_M_road_60 rfl rfl) a_nil)) (k_virt ok_M_choosing mf_M_choosing ⟨tw_1735, tw_80⟩ rfl tw_1733 d_M_road_61 (by decide) (by decide) (by decide))) rfl d_M_road_64), ⟨rfl, (s_ret (p1 := 70) (e_cI (p1 := 67) (a_cons (ι := Value.ref) (k0 := 1) (p1 := 66) (fun _ => rfl) (e_aload_n (k0 := 0) d_M_road_65 rfl rfl) (a_cons (ι := Value.int) (k0 := 1) (p1 := 67) (fun _ => rfl) (e_iload_n (k0 := 1) d_M_road_66 rfl rfl) a_nil)) (k_virt ok_M_seersOf mf_M_seersOf ⟨tw_1739, tw_81⟩ rfl tw_1737 d_M_road_67 (by decide) (by decide) (by decide))) rfl d_M_road_70), ⟨rfl, (s_ret (p1 := 76) (e_cI (p1 := 73) (a_cons (ι := Value.ref) (k0 := 1) (p1 := 72) (fun _ => rfl) (e_aload_n (k0 := 0) d_M_road_71 rfl rfl) (a_cons (ι := Value.int) (k0 := 1) (p1 := 73) (fun _ => rfl) (e_iload_n (k0 := 1) d_M_road_72 rfl rfl) a_nil)) (k_virt ok_M_wantsFor mf_M_wantsFor ⟨tw_1747, tw_83⟩ rfl tw_1745 d_M_road_73 (by decide) (by decide) (by decide))) rfl d_M_road_76), trivial⟩⟩⟩⟩ (s_ret (p1 := 78) (e_iconst d_M_road_77 (by decide)) rfl d_M_road_78)))))
/-! BlinkerCrossModel.goer(II)I -/
abbrev y_M_goer : MethodName := ⟨"BlinkerCrossModel", "goer", "(II)I"⟩
abbrev Y_M_goer : Yt := (prog_14_method_74_code, 3, "BlinkerCrossModel", 4, (some .int), "goer")
theorem d_M_goer_0 : decode prog_14_method_74_code 0 = .ok (.aload_n 0, 1) := by decide +kernel
theorem d_M_goer_1 : decode prog_14_method_74_code 1 = .ok (.iload_n 1, 1) := by decide +kernel
theorem d_M_goer_2 : decode prog_14_method_74_code 2 = .ok (.invokevirtual 345, 3) := by decide +kernel
theorem d_M_goer_5 : decode prog_14_method_74_code 5 = .ok (.ifCond .ne 5, 3) := by decide +kernel
theorem d_M_goer_8 : decode prog_14_method_74_code 8 = .ok (.iconst (-1), 1) := by decide +kernel
theorem d_M_goer_9 : decode prog_14_method_74_code 9 = .ok (.ireturn, 1) := by decide +kernel
theorem d_M_goer_10 : decode prog_14_method_74_code 10 = .ok (.aload_n 0, 1) := by decide +kernel
theorem d_M_goer_11 : decode prog_14_method_74_code 11 = .ok (.invokevirtual 357, 3) := by decide +kernel
theorem d_M_goer_14 : decode prog_14_method_74_code 14 = .ok (.iload_n 2, 1) := by decide +kernel
theorem d_M_goer_15 : decode prog_14_method_74_code 15 = .ok (.tableswitch 144 0 10 #[57, 64, 73, 83, 90, 96, 102, 108, 118, 132, 138], 57) := by decide +kernel
theorem d_M_goer_72 : decode prog_14_method_74_code 72 = .ok (.aload_n 0, 1) := by decide +kernel
theorem d_M_goer_73 : decode prog_14_method_74_code 73 = .ok (.getfield 110, 3) := by decide +kernel
theorem d_M_goer_76 : decode prog_14_method_74_code 76 = .ok (.iload_n 1, 1) := by decide +kernel
theorem d_M_goer_77 : decode prog_14_method_74_code 77 = .ok (.iaload, 1) := by decide +kernel
theorem d_M_goer_78 : decode prog_14_method_74_code 78 = .ok (.ireturn, 1) := by decide +kernel
theorem d_M_goer_79 : decode prog_14_method_74_code 79 = .ok (.aload_n 0, 1) := by decide +kernel
theorem d_M_goer_80 : decode prog_14_method_74_code 80 = .ok (.getfield 110, 3) := by decide +kernel
theorem d_M_goer_83 : decode prog_14_method_74_code 83 = .ok (.iconst 5, 1) := by decide +kernel
theorem d_M_goer_84 : decode prog_14_method_74_code 84 = .ok (.iload_n 1, 1) := by decide +kernel
theorem d_M_goer_85 : decode prog_14_method_74_code 85 = .ok (.iadd, 1) := by decide +kernel
theorem d_M_goer_86 : decode prog_14_method_74_code 86 = .ok (.iaload, 1) := by decide +kernel
theorem d_M_goer_87 : decode prog_14_method_74_code 87 = .ok (.ireturn, 1) := by decide +kernel
theorem d_M_goer_88 : decode prog_14_method_74_code 88 = .ok (.aload_n 0, 1) := by decide +kernel
theorem d_M_goer_89 : decode prog_14_method_74_code 89 = .ok (.getfield 110, 3) := by decide +kernel
theorem d_M_goer_92 : decode prog_14_method_74_code 92 = .ok (.bipush 10, 2) := by decide +kernel
theorem d_M_goer_94 : decode prog_14_method_74_code 94 = .ok (.iload_n 1, 1) := by decide +kernel
theorem d_M_goer_95 : decode prog_14_method_74_code 95 = .ok (.iadd, 1) := by decide +kernel
theorem d_M_goer_96 : decode prog_14_method_74_code 96 = .ok (.iaload, 1) := by decide +kernel
theorem d_M_goer_97 : decode prog_14_method_74_code 97 = .ok (.ireturn, 1) := by decide +kernel
theorem d_M_goer_98 : decode prog_14_method_74_code 98 = .ok (.aload_n 0, 1) := by decide +kernel
theorem d_M_goer_99 : decode prog_14_method_74_code 99 = .ok (.getfield 113, 3) := by decide +kernel
theorem d_M_goer_102 : decode prog_14_method_74_code 102 = .ok (.iload_n 1, 1) := by decide +kernel
theorem d_M_goer_103 : decode prog_14_method_74_code 103 = .ok (.iaload, 1) := by decide +kernel
theorem d_M_goer_104 : decode prog_14_method_74_code 104 = .ok (.ireturn, 1) := by decide +kernel
theorem d_M_goer_105 : decode prog_14_method_74_code 105 = .ok (.aload_n 0, 1) := by decide +kernel
theorem d_M_goer_106 : decode prog_14_method_74_code 106 = .ok (.iload_n 1, 1) := by decide +kernel
theorem d_M_goer_107 : decode prog_14_method_74_code 107 = .ok (.invokevirtual 391, 3) := by decide +kernel
theorem d_M_goer_110 : decode prog_14_method_74_code 110 = .ok (.ireturn, 1) := by decide +kernel
theorem d_M_goer_111 : decode prog_14_method_74_code 111 = .ok (.aload_n 0, 1) := by decide +kernel
theorem d_M_goer_112 : decode prog_14_method_74_code 112 = .ok (.iload_n 1, 1) := by decide +kernel
theorem d_M_goer_113 : decode prog_14_method_74_code 113 = .ok (.invokevirtual 394, 3) := by decide +kernel
theorem d_M_goer_116 : decode prog_14_method_74_code 116 = .ok (.ireturn, 1) := by decide +kernel
theorem d_M_goer_117 : decode prog_14_method_74_code 117 = .ok (.aload_n 0, 1) := by decide +kernel
theorem d_M_goer_118 : decode prog_14_method_74_code 118 = .ok (.iload_n 1, 1) := by decide +kernel
theorem d_M_goer_119 : decode prog_14_method_74_code 119 = .ok (.invokevirtual 336, 3) := by decide +kernel
theorem d_M_goer_122 : decode prog_14_method_74_code 122 = .ok (.ireturn, 1) := by decide +kernel
theorem d_M_goer_123 : decode prog_14_method_74_code 123 = .ok (.aload_n 0, 1) := by decide +kernel
theorem d_M_goer_124 : decode prog_14_method_74_code 124 = .ok (.getfield 110, 3) := by decide +kernel
theorem d_M_goer_127 : decode prog_14_method_74_code 127 = .ok (.bipush 15, 2) := by decide +kernel
theorem d_M_goer_129 : decode prog_14_method_74_code 129 = .ok (.iload_n 1, 1) := by decide +kernel
theorem d_M_goer_130 : decode prog_14_method_74_code 130 = .ok (.iadd, 1) := by decide +kernel
theorem d_M_goer_131 : decode prog_14_method_74_code 131 = .ok (.iaload, 1) := by decide +kernel
theorem d_M_goer_132 : decode prog_14_method_74_code 132 = .ok (.ireturn, 1) := by decide +kernel
theorem d_M_goer_133 : decode prog_14_method_74_code 133 = .ok (.aload_n 0, 1) := by decide +kernel
theorem d_M_goer_134 : decode prog_14_method_74_code 134 = .ok (.iload_n 1, 1) := by decide +kernel
theorem d_M_goer_135 : decode prog_14_method_74_code 135 = .ok (.invokevirtual 397, 3) := by decide +kernel
theorem d_M_goer_138 : decode prog_14_method_74_code 138 = .ok (.ifCond .eq 7, 3) := by decide +kernel
theorem d_M_goer_141 : decode prog_14_method_74_code 141 = .ok (.iconst 1, 1) := by decide +kernel
theorem d_M_goer_142 : decode prog_14_method_74_code 142 = .ok (.goto 4, 3) := by decide +kernel
theorem d_M_goer_145 : decode prog_14_method_74_code 145 = .ok (.iconst 0, 1) := by decide +kernel
theorem d_M_goer_146 : decode prog_14_method_74_code 146 = .ok (.ireturn, 1) := by decide +kernel
theorem d_M_goer_147 : decode prog_14_method_74_code 147 = .ok (.aload_n 0, 1) := by decide +kernel
theorem d_M_goer_148 : decode prog_14_method_74_code 148 = .ok (.iload_n 1, 1) := by decide +kernel
theorem d_M_goer_149 : decode prog_14_method_74_code 149 = .ok (.invokevirtual 403, 3) := by decide +kernel
theorem d_M_goer_152 : decode prog_14_method_74_code 152 = .ok (.ireturn, 1) := by decide +kernel
theorem d_M_goer_153 : decode prog_14_method_74_code 153 = .ok (.aload_n 0, 1) := by decide +kernel
theorem d_M_goer_154 : decode prog_14_method_74_code 154 = .ok (.iload_n 1, 1) := by decide +kernel
theorem d_M_goer_155 : decode prog_14_method_74_code 155 = .ok (.invokevirtual 370, 3) := by decide +kernel
theorem d_M_goer_158 : decode prog_14_method_74_code 158 = .ok (.ireturn, 1) := by decide +kernel
theorem d_M_goer_159 : decode prog_14_method_74_code 159 = .ok (.iconst (-1), 1) := by decide +kernel
theorem d_M_goer_160 : decode prog_14_method_74_code 160 = .ok (.ireturn, 1) := by decide +kernel
noncomputable def F_M_goer : Sm := sSeq (sIf (cNot (o1 (fun x => decide (x ≠ 0)) (cI (mV 12 D_M_isGoer) [asV Value.ref (vR 0), asV Value.int (vI 1)]))) (sRet (asV Value.int (kI (ii (-1))))) (sSkip)) (sSeq (sCall (mV 12 D_M_copies) [asV Value.ref (vR 0)]) (sSw (vI 2) [(ii 0, sRet (asV Value.int (aI 0 (gR 12 48 (vR 0)) (vI 1)))), (ii 1, sRet (asV Value.int (aI 0 (gR 12 48 (vR 0)) (o2 (fun x y => x + y) (kI (ii 5)) (vI 1))))), (ii 2, sRet (asV Value.int (aI 0 (gR 12 48 (vR 0)) (o2 (fun x y => x + y) (kI (ii 10)) (vI 1))))), (ii 3, sRet (asV Value.int (aI 0 (gR 12 52 (vR 0)) (vI 1)))), (ii 4, sRet (asV Value.int (cI (mV 12 D_M_standsOf) [asV Value.ref (vR 0), asV Value.int (vI 1)]))), (ii 5, sRet (asV Value.int (cI (mV 12 D_M_missedOf) [asV Value.ref (vR 0), asV Value.int (vI 1)]))), (ii 6, sRet (asV Value.int (cI (mV 12 D_M_seesMany) [asV Value.ref (vR 0), asV Value.int (vI 1)]))), (ii 7, sRet (asV Value.int (aI 0 (gR 12 48 (vR 0)) (o2 (fun x y => x + y) (kI (ii 15)) (vI 1))))), (ii 8, sRet (asV Value.int (iX (o1 (fun x => decide (x ≠ 0)) (cI (mV 12 D_M_doesKeep) [asV Value.ref (vR 0), asV Value.int (vI 1)])) (kI (ii 1)) (kI (ii 0))))), (ii 9, sRet (asV Value.int (cI (mV 12 D_M_turnsOf) [asV Value.ref (vR 0), asV Value.int (vI 1)]))), (ii 10, sRet (asV Value.int (cI (mV 12 D_M_seenBits) [asV Value.ref (vR 0), asV Value.int (vI 1)])))] (sRet (asV Value.int (kI (ii (-1)))))))
theorem mf_M_goer : Mf y_M_goer prog_14_method_74_code 3 (some .int) 2 := ⟨tw_1752, tw_134, by decide +kernel⟩
noncomputable def D_M_goer : Dn := runS [1, 1, 1] F_M_goer
set_option maxRecDepth 100000 in
theorem ok_M_goer : MOK y_M_goer prog_14_method_74_code 3 (some .int) 4 0 0 D_M_goer := MOK.of (by decide) (by decide) (show SO Y_M_goer [(0, 1), (1, 1), (2, 1)] [(0, 1), (1, 1), (2, 1)] 0 0 (([], 0), ([], 0)) F_M_goer from
  (s_seq (sl1 := [(0, 1), (1, 1), (2, 1)]) (p1 := 10) (s_if (pt := 8) (pf := 10) (c_not (c_if_neT (p1 := 5) (tg := 10) (e_cI (p1 := 2) (a_cons (ι := Value.ref) (k0 := 1) (p1 := 1) (fun _ => rfl) (e_aload_n (k0 := 0) d_M_goer_0 rfl rfl) (a_cons (ι := Value.int) (k0 := 1) (p1 := 2) (fun _ => rfl) (e_iload_n (k0 := 1) d_M_goer_1 rfl rfl) a_nil)) (k_virt ok_M_isGoer mf_M_isGoer ⟨tw_1715, tw_75⟩ rfl tw_1713 d_M_goer_2 (by decide) (by decide) (by decide))) d_M_goer_5 rfl)) (s_ret (p1 := 9) (e_iconst d_M_goer_8 (by decide)) rfl d_M_goer_9) s_skip) (s_seq (sl1 := [(0, 1), (1, 1), (2, 1)]) (p1 := 14) (s_call (p1 := 11) (a_cons (ι := Value.ref) (k0 := 1) (p1 := 11) (fun _ => rfl) (e_aload_n (k0 := 0) d_M_goer_10 rfl rfl) a_nil) (k_virt ok_M_copies mf_M_copies ⟨tw_1707, tw_73⟩ rfl tw_1705 d_M_goer_11 (by decide) (by decide) (by decide))) (s_tab (p1 := 15) (P := [(ii 0, 72), (ii 1, 79), (ii 2, 88), (ii 3, 98), (ii 4, 105), (ii 5, 111), (ii 6, 117), (ii 7, 123), (ii 8, 133), (ii 9, 147), (ii 10, 153)]) (pd := 159) (jc := ([], 0)) (dflt := 144) (lo := 0) (hi := 10) (offs := #[57, 64, 73, 83, 90, 96, 102, 108, 118, 132, 138]) (len := 57) (e_iload_n (k0 := 2) d_M_goer_14 rfl rfl) d_M_goer_15 (by decide) (by decide +kernel) ⟨rfl, (s_ret (p1 := 78) (e_iald (p1 := 76) (p2 := 77) (e_gR (k0 := 48) (p1 := 73) cf_12 (e_aload_n (k0 := 0) d_M_goer_72 rfl rfl) (by decide) tw_1408 d_M_goer_73) (e_iload_n (k0 := 1) d_M_goer_76 rfl rfl) d_M_goer_77) rfl d_M_goer_78), ⟨rfl, (s_ret (p1 := 87) (e_iald (p1 := 83) (p2 := 86) (e_gR (k0 := 48) (p1 := 80) cf_12 (e_aload_n (k0 := 0) d_M_goer_79 rfl rfl) (by decide) tw_1408 d_M_goer_80) (e_iadd (p1 := 84) (p2 := 85) (e_iconst d_M_goer_83 (by decide)) (e_iload_n (k0 := 1) d_M_goer_84 rfl rfl) d_M_goer_85) d_M_goer_86) rfl d_M_goer_87), ⟨rfl, (s_ret (p1 := 97) (e_iald (p1 := 92) (p2 := 96) (e_gR (k0 := 48) (p1 := 89) cf_12 (e_aload_n (k0 := 0) d_M_goer_88 rfl rfl) (by decide) tw_1408 d_M_goer_89) (e_iadd (p1 := 94) (p2 := 95) (e_bipush d_M_goer_92 (by decide)) (e_iload_n (k0 := 1) d_M_goer_94 rfl rfl) d_M_goer_95) d_M_goer_96) rfl d_M_goer_97), ⟨rfl, (s_ret (p1 := 104) (e_iald (p1 := 102) (p2 := 103) (e_gR (k0 := 52) (p1 := 99) cf_12 (e_aload_n (k0 := 0) d_M_goer_98 rfl rfl) (by decide) tw_1412 d_M_goer_99) (e_iload_n (k0 := 1) d_M_goer_102 rfl rfl) d_M_goer_103) rfl d_M_goer_104), ⟨rfl, (s_ret (p1 := 110) (e_cI (p1 := 107) (a_cons (ι := Value.ref) (k0 := 1) (p1 := 106) (fun _ => rfl) (e_aload_n (k0 := 0) d_M_goer_105 rfl rfl) (a_cons (ι := Value.int) (k0 := 1) (p1 := 107) (fun _ => rfl) (e_iload_n (k0 := 1) d_M_goer_106 rfl rfl) a_nil)) (k_virt ok_M_standsOf mf_M_standsOf ⟨tw_1755, tw_84⟩ rfl tw_1753 d_M_goer_107 (by decide) (by decide) (by decide))) rfl d_M_goer_110), ⟨rfl, (s_ret (p1 := 116) (e_cI (p1 := 113) (a_cons (ι := Value.ref) (k0 := 1) (p1 := 112) (fun _ => rfl) (e_aload_n (k0 := 0) d_M_goer_111 rfl rfl) (a_cons (ι := Value.int) (k0 := 1) (p1 := 113) (fun _ => rfl) (e_iload_n (k0 := 1) d_M_goer_112 rfl rfl) a_nil)) (k_virt ok_M_missedOf mf_M_missedOf ⟨tw_1782, tw_90⟩ rfl tw_1780 d_M_goer_113 (by decide) (by decide) (by decide))) rfl d_M_goer_116), ⟨rfl, (s_ret (p1 := 122) (e_cI (p1 := 119) (a_cons (ι := Value.ref) (k0 := 1) (p1 := 118) (fun _ => rfl) (e_aload_n (k0 := 0) d_M_goer_117 rfl rfl) (a_cons (ι := Value.int) (k0 := 1) (p1 := 119) (fun _ => rfl) (e_iload_n (k0 := 1) d_M_goer_118 rfl rfl) a_nil)) (k_virt ok_M_seesMany mf_M_seesMany ⟨tw_1723, tw_77⟩ rfl tw_1721 d_M_goer_119 (by decide) (by decide) (by decide))) rfl d_M_goer_122), ⟨rfl, (s_ret (p1 := 132) (e_iald (p1 := 127) (p2 := 131) (e_gR (k0 := 48) (p1 := 124) cf_12 (e_aload_n (k0 := 0) d_M_goer_123 rfl rfl) (by decide) tw_1408 d_M_goer_124) (e_iadd (p1 := 129) (p2 := 130) (e_bipush d_M_goer_127 (by decide)) (e_iload_n (k0 := 1) d_M_goer_129 rfl rfl) d_M_goer_130) d_M_goer_131) rfl d_M_goer_132), ⟨rfl, (s_ret (p1 := 146) (e_ite (pt := 141) (p1 := 142) (pf := 145) (c_if_eqF (p1 := 138) (tg := 145) (e_cI (p1 := 135) (a_cons (ι := Value.ref) (k0 := 1) (p1 := 134) (fun _ => rfl) (e_aload_n (k0 := 0) d_M_goer_133 rfl rfl) (a_cons (ι := Value.int) (k0 := 1) (p1 := 135) (fun _ => rfl) (e_iload_n (k0 := 1) d_M_goer_134 rfl rfl) a_nil)) (k_virt ok_M_doesKeep mf_M_doesKeep ⟨tw_1786, tw_91⟩ rfl tw_1784 d_M_goer_135 (by decide) (by decide) (by decide))) d_M_goer_138 rfl) (e_iconst d_M_goer_141 (by decide)) d_M_goer_142 rfl (e_iconst d_M_goer_145 (by decide))) rfl d_M_goer_146), ⟨rfl, (s_ret (p1 := 152) (e_cI (p1 := 149) (a_cons (ι := Value.ref) (k0 := 1) (p1 := 148) (fun _ => rfl) (e_aload_n (k0 := 0) d_M_goer_147 rfl rfl) (a_cons (ι := Value.int) (k0 := 1) (p1 := 149) (fun _ => rfl) (e_iload_n (k0 := 1) d_M_goer_148 rfl rfl) a_nil)) (k_virt ok_M_turnsOf mf_M_turnsOf ⟨tw_1790, tw_92⟩ rfl tw_1788 d_M_goer_149 (by decide) (by decide) (by decide))) rfl d_M_goer_152), ⟨rfl, (s_ret (p1 := 158) (e_cI (p1 := 155) (a_cons (ι := Value.ref) (k0 := 1) (p1 := 154) (fun _ => rfl) (e_aload_n (k0 := 0) d_M_goer_153 rfl rfl) (a_cons (ι := Value.int) (k0 := 1) (p1 := 155) (fun _ => rfl) (e_iload_n (k0 := 1) d_M_goer_154 rfl rfl) a_nil)) (k_virt ok_M_seenBits mf_M_seenBits ⟨tw_1743, tw_82⟩ rfl tw_1741 d_M_goer_155 (by decide) (by decide) (by decide))) rfl d_M_goer_158), trivial⟩⟩⟩⟩⟩⟩⟩⟩⟩⟩⟩ (s_ret (p1 := 160) (e_iconst d_M_goer_159 (by decide)) rfl d_M_goer_160)))))
/-! BlinkerCrossModel.gained(I)I -/
abbrev y_M_gained : MethodName := ⟨"BlinkerCrossModel", "gained", "(I)I"⟩
abbrev Y_M_gained : Yt := (prog_14_method_75_code, 2, "BlinkerCrossModel", 2, (some .int), "gained")
theorem d_M_gained_0 : decode prog_14_method_75_code 0 = .ok (.aload_n 0, 1) := by decide +kernel
theorem d_M_gained_1 : decode prog_14_method_75_code 1 = .ok (.iload_n 1, 1) := by decide +kernel
theorem d_M_gained_2 : decode prog_14_method_75_code 2 = .ok (.invokevirtual 345, 3) := by decide +kernel
theorem d_M_gained_5 : decode prog_14_method_75_code 5 = .ok (.ifCond .eq 15, 3) := by decide +kernel
theorem d_M_gained_8 : decode prog_14_method_75_code 8 = .ok (.aload_n 0, 1) := by decide +kernel
theorem d_M_gained_9 : decode prog_14_method_75_code 9 = .ok (.getfield 107, 3) := by decide +kernel
theorem d_M_gained_12 : decode prog_14_method_75_code 12 = .ok (.bipush 20, 2) := by decide +kernel
theorem d_M_gained_14 : decode prog_14_method_75_code 14 = .ok (.iload_n 1, 1) := by decide +kernel
theorem d_M_gained_15 : decode prog_14_method_75_code 15 = .ok (.iadd, 1) := by decide +kernel
theorem d_M_gained_16 : decode prog_14_method_75_code 16 = .ok (.iaload, 1) := by decide +kernel
theorem d_M_gained_17 : decode prog_14_method_75_code 17 = .ok (.goto 6, 3) := by decide +kernel
theorem d_M_gained_20 : decode prog_14_method_75_code 20 = .ok (.ldc_w 421, 3) := by decide +kernel
theorem d_M_gained_23 : decode prog_14_method_75_code 23 = .ok (.ireturn, 1) := by decide +kernel
noncomputable def F_M_gained : Sm := sRet (asV Value.int (iX (o1 (fun x => decide (x ≠ 0)) (cI (mV 12 D_M_isGoer) [asV Value.ref (vR 0), asV Value.int (vI 1)])) (aI 0 (gR 12 47 (vR 0)) (o2 (fun x y => x + y) (kI (ii 20)) (vI 1))) (kI (ii (-100000)))))
theorem mf_M_gained : Mf y_M_gained prog_14_method_75_code 2 (some .int) 1 := ⟨tw_1795, tw_134, by decide +kernel⟩
noncomputable def D_M_gained : Dn := runS [1, 1] F_M_gained
theorem ok_M_gained : MOK y_M_gained prog_14_method_75_code 2 (some .int) 2 0 0 D_M_gained := MOK.of (by decide) (by decide) (show SO Y_M_gained [(0, 1), (1, 1)] [(0, 1), (1, 1)] 0 24 (([], 0), ([], 0)) F_M_gained from
  (s_ret (p1 := 23) (e_ite (pt := 8) (p1 := 17) (pf := 20) (c_if_eqF (p1 := 5) (tg := 20) (e_cI (p1 := 2) (a_cons (ι := Value.ref) (k0 := 1) (p1 := 1) (fun _ => rfl) (e_aload_n (k0 := 0) d_M_gained_0 rfl rfl) (a_cons (ι := Value.int) (k0 := 1) (p1 := 2) (fun _ => rfl) (e_iload_n (k0 := 1) d_M_gained_1 rfl rfl) a_nil)) (k_virt ok_M_isGoer mf_M_isGoer ⟨tw_1715, tw_75⟩ rfl tw_1713 d_M_gained_2 (by decide) (by decide) (by decide))) d_M_gained_5 rfl) (e_iald (p1 := 12) (p2 := 16) (e_gR (k0 := 47) (p1 := 9) cf_12 (e_aload_n (k0 := 0) d_M_gained_8 rfl rfl) (by decide) tw_1407 d_M_gained_9) (e_iadd (p1 := 14) (p2 := 15) (e_bipush d_M_gained_12 (by decide)) (e_iload_n (k0 := 1) d_M_gained_14 rfl rfl) d_M_gained_15) d_M_gained_16) d_M_gained_17 rfl (e_ldcw d_M_gained_20 tw_1796)) rfl d_M_gained_23))
/-! BlinkerCrossModel.want(II)I -/
abbrev y_M_want : MethodName := ⟨"BlinkerCrossModel", "want", "(II)I"⟩
abbrev Y_M_want : Yt := (prog_14_method_76_code, 3, "BlinkerCrossModel", 2, (some .int), "want")
theorem d_M_want_0 : decode prog_14_method_76_code 0 = .ok (.aload_n 0, 1) := by decide +kernel
theorem d_M_want_1 : decode prog_14_method_76_code 1 = .ok (.iload_n 1, 1) := by decide +kernel
theorem d_M_want_2 : decode prog_14_method_76_code 2 = .ok (.invokevirtual 345, 3) := by decide +kernel
theorem d_M_want_5 : decode prog_14_method_76_code 5 = .ok (.ifCond .eq 28, 3) := by decide +kernel
theorem d_M_want_8 : decode prog_14_method_76_code 8 = .ok (.aload_n 0, 1) := by decide +kernel
theorem d_M_want_9 : decode prog_14_method_76_code 9 = .ok (.iload_n 2, 1) := by decide +kernel
theorem d_M_want_10 : decode prog_14_method_76_code 10 = .ok (.invokevirtual 412, 3) := by decide +kernel
theorem d_M_want_13 : decode prog_14_method_76_code 13 = .ok (.ifCond .eq 20, 3) := by decide +kernel
theorem d_M_want_16 : decode prog_14_method_76_code 16 = .ok (.aload_n 0, 1) := by decide +kernel
theorem d_M_want_17 : decode prog_14_method_76_code 17 = .ok (.getfield 107, 3) := by decide +kernel
theorem d_M_want_20 : decode prog_14_method_76_code 20 = .ok (.bipush 25, 2) := by decide +kernel
theorem d_M_want_22 : decode prog_14_method_76_code 22 = .ok (.bipush 6, 2) := by decide +kernel
theorem d_M_want_24 : decode prog_14_method_76_code 24 = .ok (.iload_n 1, 1) := by decide +kernel
theorem d_M_want_25 : decode prog_14_method_76_code 25 = .ok (.imul, 1) := by decide +kernel
theorem d_M_want_26 : decode prog_14_method_76_code 26 = .ok (.iadd, 1) := by decide +kernel
theorem d_M_want_27 : decode prog_14_method_76_code 27 = .ok (.iload_n 2, 1) := by decide +kernel
theorem d_M_want_28 : decode prog_14_method_76_code 28 = .ok (.iadd, 1) := by decide +kernel
theorem d_M_want_29 : decode prog_14_method_76_code 29 = .ok (.iaload, 1) := by decide +kernel
theorem d_M_want_30 : decode prog_14_method_76_code 30 = .ok (.goto 4, 3) := by decide +kernel
theorem d_M_want_33 : decode prog_14_method_76_code 33 = .ok (.iconst (-1), 1) := by decide +kernel
theorem d_M_want_34 : decode prog_14_method_76_code 34 = .ok (.ireturn, 1) := by decide +kernel
noncomputable def F_M_want : Sm := sRet (asV Value.int (iX (cAnd (o1 (fun x => decide (x ≠ 0)) (cI (mV 12 D_M_isGoer) [asV Value.ref (vR 0), asV Value.int (vI 1)])) (o1 (fun x => decide (x ≠ 0)) (cI (mV 12 D_M_isRoad) [asV Value.ref (vR 0), asV Value.int (vI 2)]))) (aI 0 (gR 12 47 (vR 0)) (o2 (fun x y => x + y) (o2 (fun x y => x + y) (kI (ii 25)) (o2 (fun x y => x * y) (kI (ii 6)) (vI 1))) (vI 2))) (kI (ii (-1)))))
theorem mf_M_want : Mf y_M_want prog_14_method_76_code 3 (some .int) 2 := ⟨tw_1800, tw_134, by decide +kernel⟩
noncomputable def D_M_want : Dn := runS [1, 1, 1] F_M_want
theorem ok_M_want : MOK y_M_want prog_14_method_76_code 3 (some .int) 2 0 0 D_M_want := MOK.of (by decide) (by decide) (show SO Y_M_want [(0, 1), (1, 1), (2, 1)] [(0, 1), (1, 1), (2, 1)] 0 35 (([], 0), ([], 0)) F_M_want from
  (s_ret (p1 := 34) (e_ite (pt := 16) (p1 := 30) (pf := 33) (c_and (p1 := 8) (c_if_eqF (p1 := 5) (tg := 33) (e_cI (p1 := 2) (a_cons (ι := Value.ref) (k0 := 1) (p1 := 1) (fun _ => rfl) (e_aload_n (k0 := 0) d_M_want_0 rfl rfl) (a_cons (ι := Value.int) (k0 := 1) (p1 := 2) (fun _ => rfl) (e_iload_n (k0 := 1) d_M_want_1 rfl rfl) a_nil)) (k_virt ok_M_isGoer mf_M_isGoer ⟨tw_1715, tw_75⟩ rfl tw_1713 d_M_want_2 (by decide) (by decide) (by decide))) d_M_want_5 rfl) (c_if_eqF (p1 := 13) (tg := 33) (e_cI (p1 := 10) (a_cons (ι := Value.ref) (k0 := 1) (p1 := 9) (fun _ => rfl) (e_aload_n (k0 := 0) d_M_want_8 rfl rfl) (a_cons (ι := Value.int) (k0 := 1) (p1 := 10) (fun _ => rfl) (e_iload_n (k0 := 2) d_M_want_9 rfl rfl) a_nil)) (k_virt ok_M_isRoad mf_M_isRoad ⟨tw_1700, tw_72⟩ rfl tw_1698 d_M_want_10 (by decide) (by decide) (by decide))) d_M_want_13 rfl)) (e_iald (p1 := 20) (p2 := 29) (e_gR (k0 := 47) (p1 := 17) cf_12 (e_aload_n (k0 := 0) d_M_want_16 rfl rfl) (by decide) tw_1407 d_M_want_17) (e_iadd (p1 := 27) (p2 := 28) (e_iadd (p1 := 22) (p2 := 26) (e_bipush d_M_want_20 (by decide)) (e_imul (p1 := 24) (p2 := 25) (e_bipush d_M_want_22 (by decide)) (e_iload_n (k0 := 1) d_M_want_24 rfl rfl) d_M_want_25) d_M_want_26) (e_iload_n (k0 := 2) d_M_want_27 rfl rfl) d_M_want_28) d_M_want_29) d_M_want_30 rfl (e_iconst d_M_want_33 (by decide))) rfl d_M_want_34))
/-! BlinkerCrossModel.crowds(III)I -/
abbrev y_M_crowds : MethodName := ⟨"BlinkerCrossModel", "crowds", "(III)I"⟩
abbrev Y_M_crowds : Yt := (prog_14_method_77_code, 4, "BlinkerCrossModel", 4, (some .int), "crowds")
theorem d_M_crowds_0 : decode prog_14_method_77_code 0 = .ok (.aload_n 0, 1) := by decide +kernel
theorem d_M_crowds_1 : decode prog_14_method_77_code 1 = .ok (.iload_n 1, 1) := by decide +kernel
theorem d_M_crowds_2 : decode prog_14_method_77_code 2 = .ok (.invokevirtual 345, 3) := by decide +kernel
theorem d_M_crowds_5 : decode prog_14_method_77_code 5 = .ok (.ifCond .eq 20, 3) := by decide +kernel
theorem d_M_crowds_8 : decode prog_14_method_77_code 8 = .ok (.aload_n 0, 1) := by decide +kernel
theorem d_M_crowds_9 : decode prog_14_method_77_code 9 = .ok (.iload_n 2, 1) := by decide +kernel
theorem d_M_crowds_10 : decode prog_14_method_77_code 10 = .ok (.invokevirtual 412, 3) := by decide +kernel
theorem d_M_crowds_13 : decode prog_14_method_77_code 13 = .ok (.ifCond .eq 12, 3) := by decide +kernel
theorem d_M_crowds_16 : decode prog_14_method_77_code 16 = .ok (.iload_n 3, 1) := by decide +kernel
theorem d_M_crowds_17 : decode prog_14_method_77_code 17 = .ok (.iconst 1, 1) := by decide +kernel
theorem d_M_crowds_18 : decode prog_14_method_77_code 18 = .ok (.iconst 5, 1) := by decide +kernel
theorem d_M_crowds_19 : decode prog_14_method_77_code 19 = .ok (.invokestatic 319, 3) := by decide +kernel
theorem d_M_crowds_22 : decode prog_14_method_77_code 22 = .ok (.ifCond .ne 5, 3) := by decide +kernel
theorem d_M_crowds_25 : decode prog_14_method_77_code 25 = .ok (.iconst (-1), 1) := by decide +kernel
theorem d_M_crowds_26 : decode prog_14_method_77_code 26 = .ok (.ireturn, 1) := by decide +kernel
theorem d_M_crowds_27 : decode prog_14_method_77_code 27 = .ok (.aload_n 0, 1) := by decide +kernel
theorem d_M_crowds_28 : decode prog_14_method_77_code 28 = .ok (.invokevirtual 357, 3) := by decide +kernel
theorem d_M_crowds_31 : decode prog_14_method_77_code 31 = .ok (.aload_n 0, 1) := by decide +kernel
theorem d_M_crowds_32 : decode prog_14_method_77_code 32 = .ok (.iload_n 1, 1) := by decide +kernel
theorem d_M_crowds_33 : decode prog_14_method_77_code 33 = .ok (.iload_n 2, 1) := by decide +kernel
theorem d_M_crowds_34 : decode prog_14_method_77_code 34 = .ok (.iload_n 3, 1) := by decide +kernel
theorem d_M_crowds_35 : decode prog_14_method_77_code 35 = .ok (.invokevirtual 382, 3) := by decide +kernel
theorem d_M_crowds_38 : decode prog_14_method_77_code 38 = .ok (.ireturn, 1) := by decide +kernel
noncomputable def F_M_crowds : Sm := sSeq (sIf (cOr (cOr (cNot (o1 (fun x => decide (x ≠ 0)) (cI (mV 12 D_M_isGoer) [asV Value.ref (vR 0), asV Value.int (vI 1)]))) (cNot (o1 (fun x => decide (x ≠ 0)) (cI (mV 12 D_M_isRoad) [asV Value.ref (vR 0), asV Value.int (vI 2)])))) (cNot (o1 (fun x => decide (x ≠ 0)) (cI (D_M_in) [asV Value.int (vI 3), asV Value.int (kI (ii 1)), asV Value.int (kI (ii 5))])))) (sRet (asV Value.int (kI (ii (-1))))) (sSkip)) (sSeq (sCall (mV 12 D_M_copies) [asV Value.ref (vR 0)]) (sRet (asV Value.int (cI (mV 12 D_M_crowdsOf) [asV Value.ref (vR 0), asV Value.int (vI 1), asV Value.int (vI 2), asV Value.int (vI 3)]))))
theorem mf_M_crowds : Mf y_M_crowds prog_14_method_77_code 4 (some .int) 3 := ⟨tw_1804, tw_134, by decide +kernel⟩
noncomputable def D_M_crowds : Dn := runS [1, 1, 1, 1] F_M_crowds
theorem ok_M_crowds : MOK y_M_crowds prog_14_method_77_code 4 (some .int) 4 0 0 D_M_crowds := MOK.of (by decide) (by decide) (show SO Y_M_crowds [(0, 1), (1, 1), (2, 1), (3, 1)] [(0, 1), (1, 1), (2, 1), (3, 1)] 0 39 (([], 0), ([], 0)) F_M_crowds from
  (s_seq (sl1 := [(0, 1), (1, 1), (2, 1), (3, 1)]) (p1 := 27) (s_if (pt := 25) (pf := 27) (c_or (p1 := 16) (c_or (p1 := 8) (c_not (c_if_eqF (p1 := 5) (tg := 25) (e_cI (p1 := 2) (a_cons (ι := Value.ref) (k0 := 1) (p1 := 1) (fun _ => rfl) (e_aload_n (k0 := 0) d_M_crowds_0 rfl rfl) (a_cons (ι := Value.int) (k0 := 1) (p1 := 2) (fun _ => rfl) (e_iload_n (k0 := 1) d_M_crowds_1 rfl rfl) a_nil)) (k_virt ok_M_isGoer mf_M_isGoer ⟨tw_1715, tw_75⟩ rfl tw_1713 d_M_crowds_2 (by decide) (by decide) (by decide))) d_M_crowds_5 rfl)) (c_not (c_if_eqF (p1 := 13) (tg := 25) (e_cI (p1 := 10) (a_cons (ι := Value.ref) (k0 := 1) (p1 := 9) (fun _ => rfl) (e_aload_n (k0 := 0) d_M_crowds_8 rfl rfl) (a_cons (ι := Value.int) (k0 := 1) (p1 := 10) (fun _ => rfl) (e_iload_n (k0 := 2) d_M_crowds_9 rfl rfl) a_nil)) (k_virt ok_M_isRoad mf_M_isRoad ⟨tw_1700, tw_72⟩ rfl tw_1698 d_M_crowds_10 (by decide) (by decide) (by decide))) d_M_crowds_13 rfl))) (c_not (c_if_neT (p1 := 22) (tg := 27) (e_cI (p1 := 19) (a_cons (ι := Value.int) (k0 := 1) (p1 := 17) (fun _ => rfl) (e_iload_n (k0 := 3) d_M_crowds_16 rfl rfl) (a_cons (ι := Value.int) (k0 := 1) (p1 := 18) (fun _ => rfl) (e_iconst d_M_crowds_17 (by decide)) (a_cons (ι := Value.int) (k0 := 1) (p1 := 19) (fun _ => rfl) (e_iconst d_M_crowds_18 (by decide)) a_nil))) (k_stat ok_M_in mf_M_in tw_1703 tw_1702 d_M_crowds_19 (by decide) (by decide) (by decide))) d_M_crowds_22 rfl))) (s_ret (p1 := 26) (e_iconst d_M_crowds_25 (by decide)) rfl d_M_crowds_26) s_skip) (s_seq (sl1 := [(0, 1), (1, 1), (2, 1), (3, 1)]) (p1 := 31) (s_call (p1 := 28) (a_cons (ι := Value.ref) (k0 := 1) (p1 := 28) (fun _ => rfl) (e_aload_n (k0 := 0) d_M_crowds_27 rfl rfl) a_nil) (k_virt ok_M_copies mf_M_copies ⟨tw_1707, tw_73⟩ rfl tw_1705 d_M_crowds_28 (by decide) (by decide) (by decide))) (s_ret (p1 := 38) (e_cI (p1 := 35) (a_cons (ι := Value.ref) (k0 := 1) (p1 := 32) (fun _ => rfl) (e_aload_n (k0 := 0) d_M_crowds_31 rfl rfl) (a_cons (ι := Value.int) (k0 := 1) (p1 := 33) (fun _ => rfl) (e_iload_n (k0 := 1) d_M_crowds_32 rfl rfl) (a_cons (ι := Value.int) (k0 := 1) (p1 := 34) (fun _ => rfl) (e_iload_n (k0 := 2) d_M_crowds_33 rfl rfl) (a_cons (ι := Value.int) (k0 := 1) (p1 := 35) (fun _ => rfl) (e_iload_n (k0 := 3) d_M_crowds_34 rfl rfl) a_nil)))) (k_virt ok_M_crowdsOf mf_M_crowdsOf ⟨tw_1807, tw_93⟩ rfl tw_1805 d_M_crowds_35 (by decide) (by decide) (by decide))) rfl d_M_crowds_38))))
/-! BlinkerCrossModel.records()V -/
abbrev y_M_records : MethodName := ⟨"BlinkerCrossModel", "records", "()V"⟩
abbrev Y_M_records : Yt := (prog_14_method_78_code, 2, "BlinkerCrossModel", 1, none, "records")
theorem d_M_records_0 : decode prog_14_method_78_code 0 = .ok (.aload_n 0, 1) := by decide +kernel
theorem d_M_records_1 : decode prog_14_method_78_code 1 = .ok (.getfield 260, 3) := by decide +kernel
theorem d_M_records_4 : decode prog_14_method_78_code 4 = .ok (.bipush 40, 2) := by decide +kernel
theorem d_M_records_6 : decode prog_14_method_78_code 6 = .ok (.if_icmp .ne 43, 3) := by decide +kernel
theorem d_M_records_9 : decode prog_14_method_78_code 9 = .ok (.iconst 0, 1) := by decide +kernel
theorem d_M_records_10 : decode prog_14_method_78_code 10 = .ok (.istore_n 1, 1) := by decide +kernel
theorem d_M_records_11 : decode prog_14_method_78_code 11 = .ok (.iload_n 1, 1) := by decide +kernel
theorem d_M_records_12 : decode prog_14_method_78_code 12 = .ok (.sipush 2184, 3) := by decide +kernel
theorem d_M_records_15 : decode prog_14_method_78_code 15 = .ok (.if_icmp .ge 24, 3) := by decide +kernel
theorem d_M_records_18 : decode prog_14_method_78_code 18 = .ok (.aload_n 0, 1) := by decide +kernel
theorem d_M_records_19 : decode prog_14_method_78_code 19 = .ok (.getfield 128, 3) := by decide +kernel
theorem d_M_records_22 : decode prog_14_method_78_code 22 = .ok (.iload_n 1, 1) := by decide +kernel
theorem d_M_records_23 : decode prog_14_method_78_code 23 = .ok (.aload_n 0, 1) := by decide +kernel
theorem d_M_records_24 : decode prog_14_method_78_code 24 = .ok (.getfield 128, 3) := by decide +kernel
theorem d_M_records_27 : decode prog_14_method_78_code 27 = .ok (.iload_n 1, 1) := by decide +kernel
theorem d_M_records_28 : decode prog_14_method_78_code 28 = .ok (.bipush 56, 2) := by decide +kernel
theorem d_M_records_30 : decode prog_14_method_78_code 30 = .ok (.iadd, 1) := by decide +kernel
theorem d_M_records_31 : decode prog_14_method_78_code 31 = .ok (.iaload, 1) := by decide +kernel
theorem d_M_records_32 : decode prog_14_method_78_code 32 = .ok (.iastore, 1) := by decide +kernel
theorem d_M_records_33 : decode prog_14_method_78_code 33 = .ok (.iinc 1 1, 3) := by decide +kernel
theorem d_M_records_36 : decode prog_14_method_78_code 36 = .ok (.goto (-25), 3) := by decide +kernel
theorem d_M_records_39 : decode prog_14_method_78_code 39 = .ok (.aload_n 0, 1) := by decide +kernel
theorem d_M_records_40 : decode prog_14_method_78_code 40 = .ok (.dup, 1) := by decide +kernel
theorem d_M_records_41 : decode prog_14_method_78_code 41 = .ok (.getfield 260, 3) := by decide +kernel
theorem d_M_records_44 : decode prog_14_method_78_code 44 = .ok (.iconst 1, 1) := by decide +kernel
theorem d_M_records_45 : decode prog_14_method_78_code 45 = .ok (.isub, 1) := by decide +kernel
theorem d_M_records_46 : decode prog_14_method_78_code 46 = .ok (.putfield 260, 3) := by decide +kernel
theorem d_M_records_49 : decode prog_14_method_78_code 49 = .ok (.iconst 0, 1) := by decide +kernel
theorem d_M_records_50 : decode prog_14_method_78_code 50 = .ok (.istore_n 1, 1) := by decide +kernel
theorem d_M_records_51 : decode prog_14_method_78_code 51 = .ok (.iload_n 1, 1) := by decide +kernel
theorem d_M_records_52 : decode prog_14_method_78_code 52 = .ok (.bipush 56, 2) := by decide +kernel
theorem d_M_records_54 : decode prog_14_method_78_code 54 = .ok (.if_icmp .ge 29, 3) := by decide +kernel
theorem d_M_records_57 : decode prog_14_method_78_code 57 = .ok (.aload_n 0, 1) := by decide +kernel
theorem d_M_records_58 : decode prog_14_method_78_code 58 = .ok (.getfield 128, 3) := by decide +kernel
theorem d_M_records_61 : decode prog_14_method_78_code 61 = .ok (.bipush 56, 2) := by decide +kernel
theorem d_M_records_63 : decode prog_14_method_78_code 63 = .ok (.aload_n 0, 1) := by decide +kernel
theorem d_M_records_64 : decode prog_14_method_78_code 64 = .ok (.getfield 260, 3) := by decide +kernel
theorem d_M_records_67 : decode prog_14_method_78_code 67 = .ok (.imul, 1) := by decide +kernel
theorem d_M_records_68 : decode prog_14_method_78_code 68 = .ok (.iload_n 1, 1) := by decide +kernel
theorem d_M_records_69 : decode prog_14_method_78_code 69 = .ok (.iadd, 1) := by decide +kernel
theorem d_M_records_70 : decode prog_14_method_78_code 70 = .ok (.aload_n 0, 1) := by decide +kernel
theorem d_M_records_71 : decode prog_14_method_78_code 71 = .ok (.getfield 107, 3) := by decide +kernel
theorem d_M_records_74 : decode prog_14_method_78_code 74 = .ok (.iload_n 1, 1) := by decide +kernel
theorem d_M_records_75 : decode prog_14_method_78_code 75 = .ok (.iaload, 1) := by decide +kernel
theorem d_M_records_76 : decode prog_14_method_78_code 76 = .ok (.iastore, 1) := by decide +kernel
theorem d_M_records_77 : decode prog_14_method_78_code 77 = .ok (.iinc 1 1, 3) := by decide +kernel
theorem d_M_records_80 : decode prog_14_method_78_code 80 = .ok (.goto (-29), 3) := by decide +kernel
theorem d_M_records_83 : decode prog_14_method_78_code 83 = .ok (.aload_n 0, 1) := by decide +kernel
theorem d_M_records_84 : decode prog_14_method_78_code 84 = .ok (.dup, 1) := by decide +kernel
theorem d_M_records_85 : decode prog_14_method_78_code 85 = .ok (.getfield 260, 3) := by decide +kernel
theorem d_M_records_88 : decode prog_14_method_78_code 88 = .ok (.iconst 1, 1) := by decide +kernel
theorem d_M_records_89 : decode prog_14_method_78_code 89 = .ok (.iadd, 1) := by decide +kernel
theorem d_M_records_90 : decode prog_14_method_78_code 90 = .ok (.putfield 260, 3) := by decide +kernel
theorem d_M_records_93 : decode prog_14_method_78_code 93 = .ok (.aload_n 0, 1) := by decide +kernel
theorem d_M_records_94 : decode prog_14_method_78_code 94 = .ok (.invokevirtual 172, 3) := by decide +kernel
theorem d_M_records_97 : decode prog_14_method_78_code 97 = .ok (.return_, 1) := by decide +kernel
noncomputable def Lc_M_records_1 : Xp Bool := o2 (fun x y => decide (x < y)) (vI 1) (kI (ii 2184))
noncomputable def Lb_M_records_1 : Sm := sAst 0 (gR 12 58 (vR 0)) (vI 1) (aI 0 (gR 12 58 (vR 0)) (o2 (fun x y => x + y) (vI 1) (kI (ii 56))))
noncomputable def Lu_M_records_1 : Sm := sInc 1 (ii 1)
noncomputable def Lc_M_records_2 : Xp Bool := o2 (fun x y => decide (x < y)) (vI 1) (kI (ii 56))
noncomputable def Lb_M_records_2 : Sm := sAst 0 (gR 12 58 (vR 0)) (o2 (fun x y => x + y) (o2 (fun x y => x * y) (kI (ii 56)) (gI 12 57 (vR 0))) (vI 1)) (aI 0 (gR 12 47 (vR 0)) (vI 1))
noncomputable def Lu_M_records_2 : Sm := sInc 1 (ii 1)
noncomputable def F_M_records : Sm := sSeq (sIf (o2 (fun x y => decide (x = y)) (gI 12 57 (vR 0)) (kI (ii 40))) (sSeq (sBlk 1 (sSeq (sDecl (asV Value.int (kI (ii 0)))) (sWh (Lc_M_records_1) (Lb_M_records_1) Lu_M_records_1))) (sFop 12 57 (vR 0) (fun x y => x - y) (kI (ii 1)))) (sSkip)) (sSeq (sBlk 1 (sSeq (sDecl (asV Value.int (kI (ii 0)))) (sWh (Lc_M_records_2) (Lb_M_records_2) Lu_M_records_2))) (sSeq (sFop 12 57 (vR 0) (fun x y => x + y) (kI (ii 1))) (sSeq (sCall (mV 12 D_M_keepsRow) [asV Value.ref (vR 0)]) (sRetV))))
theorem mf_M_records : Mf y_M_records prog_14_method_78_code 2 none 0 := ⟨tw_1816, tw_134, by decide +kernel⟩
noncomputable def D_M_records : Dn := runS [1] F_M_records
theorem ok_M_records : MOK y_M_records prog_14_method_78_code 2 none 1 0 0 D_M_records := MOK.of (by decide) (by decide) (show SO Y_M_records [(0, 1)] [(0, 1)] 0 98 (([], 0), ([], 0)) F_M_records from
  (s_seq (sl1 := [(0, 1)]) (p1 := 49) (s_if (pt := 9) (pf := 49) (c_icmp_neF (p1 := 4) (p2 := 6) (tg := 49) (e_gI (k0 := 57) (p1 := 1) cf_12 (e_aload_n (k0 := 0) d_M_records_0 rfl rfl) (by decide) tw_1417 d_M_records_1) (e_bipush d_M_records_4 (by decide)) d_M_records_6 rfl) (s_seq (sl1 := [(0, 1)]) (p1 := 39) (s_blk (sl1 := [(0, 1), (1, 1)]) (s_seq (sl1 := [(0, 1), (1, 1)]) (p1 := 11) (s_decl (p1 := 10) (e_iconst d_M_records_9 (by decide)) (t_istore_n d_M_records_10 rfl (by decide)) rfl) (s_for (pt := 18) (pu := 33) (pf := 39) (pg := 0) (c_icmp_geF (p1 := 12) (p2 := 15) (tg := 39) (e_iload_n (k0 := 1) d_M_records_11 rfl rfl) (e_sipush d_M_records_12 (by decide)) d_M_records_15 rfl) (s_ast (p1 := 22) (p2 := 23) (p3 := 32) (e_gR (k0 := 58) (p1 := 19) cf_12 (e_aload_n (k0 := 0) d_M_records_18 rfl rfl) (by decide) tw_1418 d_M_records_19) (e_iload_n (k0 := 1) d_M_records_22 rfl rfl) (e_iald (p1 := 27) (p2 := 31) (e_gR (k0 := 58) (p1 := 24) cf_12 (e_aload_n (k0 := 0) d_M_records_23 rfl rfl) (by decide) tw_1418 d_M_records_24) (e_iadd (p1 := 28) (p2 := 30) (e_iload_n (k0 := 1) d_M_records_27 rfl rfl) (e_bipush d_M_records_28 (by decide)) d_M_records_30) d_M_records_31) (as_i d_M_records_32)) (s_goto (p1 := 36) (s_inc (k0 := 1) d_M_records_33 rfl rfl (Nat.le_of_ble_eq_true rfl) rfl) d_M_records_36 rfl))) rfl) (s_fop (k0 := 57) (p1 := 40) (p2 := 45) cf_12 (e_aload_n (k0 := 0) d_M_records_39 rfl rfl) d_M_records_40 d_M_records_41 (e_iconst d_M_records_44 (by decide)) (op_isub d_M_records_45) (by decide) rfl tw_1417 tw_1417 rfl d_M_records_46)) s_skip) (s_seq (sl1 := [(0, 1)]) (p1 := 83) (s_blk (sl1 := [(0, 1), (1, 1)]) (s_seq (sl1 := [(0, 1), (1, 1)]) (p1 := 51) (s_decl (p1 := 50) (e_iconst d_M_records_49 (by decide)) (t_istore_n d_M_records_50 rfl (by decide)) rfl) (s_for (pt := 57) (pu := 77) (pf := 83) (pg := 0) (c_icmp_geF (p1 := 52) (p2 := 54) (tg := 83) (e_iload_n (k0 := 1) d_M_records_51 rfl rfl) (e_bipush d_M_records_52 (by decide)) d_M_records_54 rfl) (s_ast (p1 := 61) (p2 := 70) (p3 := 76) (e_gR (k0 := 58) (p1 := 58) cf_12 (e_aload_n (k0 := 0) d_M_records_57 rfl rfl) (by decide) tw_1418 d_M_records_58) (e_iadd (p1 := 68) (p2 := 69) (e_imul (p1 := 63) (p2 := 67) (e_bipush d_M_records_61 (by decide)) (e_gI (k0 := 57) (p1 := 64) cf_12 (e_aload_n (k0 := 0) d_M_records_63 rfl rfl) (by decide) tw_1417 d_M_records_64) d_M_records_67) (e_iload_n (k0 := 1) d_M_records_68 rfl rfl) d_M_records_69) (e_iald (p1 := 74) (p2 := 75) (e_gR (k0 := 47) (p1 := 71) cf_12 (e_aload_n (k0 := 0) d_M_records_70 rfl rfl) (by decide) tw_1407 d_M_records_71) (e_iload_n (k0 := 1) d_M_records_74 rfl rfl) d_M_records_75) (as_i d_M_records_76)) (s_goto (p1 := 80) (s_inc (k0 := 1) d_M_records_77 rfl rfl (Nat.le_of_ble_eq_true rfl) rfl) d_M_records_80 rfl))) rfl) (s_seq (sl1 := [(0, 1)]) (p1 := 93) (s_fop (k0 := 57) (p1 := 84) (p2 := 89) cf_12 (e_aload_n (k0 := 0) d_M_records_83 rfl rfl) d_M_records_84 d_M_records_85 (e_iconst d_M_records_88 (by decide)) (op_iadd d_M_records_89) (by decide) rfl tw_1417 tw_1417 rfl d_M_records_90) (s_seq (sl1 := [(0, 1)]) (p1 := 97) (s_call (p1 := 94) (a_cons (ι := Value.ref) (k0 := 1) (p1 := 94) (fun _ => rfl) (e_aload_n (k0 := 0) d_M_records_93 rfl rfl) a_nil) (k_virt ok_M_keepsRow mf_M_keepsRow ⟨tw_1359, tw_48⟩ rfl tw_1357 d_M_records_94 (by decide) (by decide) (by decide))) (s_retV rfl d_M_records_97))))))
/-! BlinkerCrossModel.does(II)Z -/
abbrev y_M_does : MethodName := ⟨"BlinkerCrossModel", "does", "(II)Z"⟩
abbrev Y_M_does : Yt := (prog_14_method_79_code, 3, "BlinkerCrossModel", 4, (some .boolean), "does")
theorem d_M_does_0 : decode prog_14_method_79_code 0 = .ok (.aload_n 0, 1) := by decide +kernel
theorem d_M_does_1 : decode prog_14_method_79_code 1 = .ok (.invokevirtual 357, 3) := by decide +kernel
theorem d_M_does_4 : decode prog_14_method_79_code 4 = .ok (.aload_n 0, 1) := by decide +kernel
theorem d_M_does_5 : decode prog_14_method_79_code 5 = .ok (.getfield 110, 3) := by decide +kernel
theorem d_M_does_8 : decode prog_14_method_79_code 8 = .ok (.iload_n 1, 1) := by decide +kernel
theorem d_M_does_9 : decode prog_14_method_79_code 9 = .ok (.iload_n 2, 1) := by decide +kernel
theorem d_M_does_10 : decode prog_14_method_79_code 10 = .ok (.iastore, 1) := by decide +kernel
theorem d_M_does_11 : decode prog_14_method_79_code 11 = .ok (.aload_n 0, 1) := by decide +kernel
theorem d_M_does_12 : decode prog_14_method_79_code 12 = .ok (.invokevirtual 422, 3) := by decide +kernel
theorem d_M_does_15 : decode prog_14_method_79_code 15 = .ok (.iconst 1, 1) := by decide +kernel
theorem d_M_does_16 : decode prog_14_method_79_code 16 = .ok (.ireturn, 1) := by decide +kernel
noncomputable def F_M_does : Sm := sSeq (sCall (mV 12 D_M_copies) [asV Value.ref (vR 0)]) (sSeq (sAst 0 (gR 12 48 (vR 0)) (vI 1) (vI 2)) (sSeq (sCall (mV 12 D_M_records) [asV Value.ref (vR 0)]) (sRetZ (kI (ii 1)))))
theorem mf_M_does : Mf y_M_does prog_14_method_79_code 3 (some .boolean) 2 := ⟨tw_1824, tw_134, by decide +kernel⟩
noncomputable def D_M_does : Dn := runS [1, 1, 1] F_M_does
theorem ok_M_does : MOK y_M_does prog_14_method_79_code 3 (some .boolean) 4 0 0 D_M_does := MOK.of (by decide) (by decide) (show SO Y_M_does [(0, 1), (1, 1), (2, 1)] [(0, 1), (1, 1), (2, 1)] 0 17 (([], 0), ([], 0)) F_M_does from
  (s_seq (sl1 := [(0, 1), (1, 1), (2, 1)]) (p1 := 4) (s_call (p1 := 1) (a_cons (ι := Value.ref) (k0 := 1) (p1 := 1) (fun _ => rfl) (e_aload_n (k0 := 0) d_M_does_0 rfl rfl) a_nil) (k_virt ok_M_copies mf_M_copies ⟨tw_1707, tw_73⟩ rfl tw_1705 d_M_does_1 (by decide) (by decide) (by decide))) (s_seq (sl1 := [(0, 1), (1, 1), (2, 1)]) (p1 := 11) (s_ast (p1 := 8) (p2 := 9) (p3 := 10) (e_gR (k0 := 48) (p1 := 5) cf_12 (e_aload_n (k0 := 0) d_M_does_4 rfl rfl) (by decide) tw_1408 d_M_does_5) (e_iload_n (k0 := 1) d_M_does_8 rfl rfl) (e_iload_n (k0 := 2) d_M_does_9 rfl rfl) (as_i d_M_does_10)) (s_seq (sl1 := [(0, 1), (1, 1), (2, 1)]) (p1 := 15) (s_call (p1 := 12) (a_cons (ι := Value.ref) (k0 := 1) (p1 := 12) (fun _ => rfl) (e_aload_n (k0 := 0) d_M_does_11 rfl rfl) a_nil) (k_virt ok_M_records mf_M_records ⟨tw_1815, tw_94⟩ rfl tw_1813 d_M_does_12 (by decide) (by decide) (by decide))) (s_retZ (p1 := 16) (e_iconst d_M_does_15 (by decide)) rfl d_M_does_16)))))
/-! BlinkerCrossModel.flap(II)Z -/
abbrev y_M_flap : MethodName := ⟨"BlinkerCrossModel", "flap", "(II)Z"⟩
abbrev Y_M_flap : Yt := (prog_14_method_80_code, 3, "BlinkerCrossModel", 4, (some .boolean), "flap")
theorem d_M_flap_0 : decode prog_14_method_80_code 0 = .ok (.aload_n 0, 1) := by decide +kernel
theorem d_M_flap_1 : decode prog_14_method_80_code 1 = .ok (.iload_n 1, 1) := by decide +kernel
theorem d_M_flap_2 : decode prog_14_method_80_code 2 = .ok (.invokevirtual 345, 3) := by decide +kernel
theorem d_M_flap_5 : decode prog_14_method_80_code 5 = .ok (.ifCond .eq 38, 3) := by decide +kernel
theorem d_M_flap_8 : decode prog_14_method_80_code 8 = .ok (.iload_n 2, 1) := by decide +kernel
theorem d_M_flap_9 : decode prog_14_method_80_code 9 = .ok (.iconst 1, 1) := by decide +kernel
theorem d_M_flap_10 : decode prog_14_method_80_code 10 = .ok (.bipush 6, 2) := by decide +kernel
theorem d_M_flap_12 : decode prog_14_method_80_code 12 = .ok (.invokestatic 319, 3) := by decide +kernel
theorem d_M_flap_15 : decode prog_14_method_80_code 15 = .ok (.ifCond .eq 28, 3) := by decide +kernel
theorem d_M_flap_18 : decode prog_14_method_80_code 18 = .ok (.aload_n 0, 1) := by decide +kernel
theorem d_M_flap_19 : decode prog_14_method_80_code 19 = .ok (.getfield 107, 3) := by decide +kernel
theorem d_M_flap_22 : decode prog_14_method_80_code 22 = .ok (.iconst 5, 1) := by decide +kernel
theorem d_M_flap_23 : decode prog_14_method_80_code 23 = .ok (.iload_n 1, 1) := by decide +kernel
theorem d_M_flap_24 : decode prog_14_method_80_code 24 = .ok (.iadd, 1) := by decide +kernel
theorem d_M_flap_25 : decode prog_14_method_80_code 25 = .ok (.iaload, 1) := by decide +kernel
theorem d_M_flap_26 : decode prog_14_method_80_code 26 = .ok (.iload_n 2, 1) := by decide +kernel
theorem d_M_flap_27 : decode prog_14_method_80_code 27 = .ok (.if_icmp .ne 18, 3) := by decide +kernel
theorem d_M_flap_30 : decode prog_14_method_80_code 30 = .ok (.aload_n 0, 1) := by decide +kernel
theorem d_M_flap_31 : decode prog_14_method_80_code 31 = .ok (.getfield 107, 3) := by decide +kernel
theorem d_M_flap_34 : decode prog_14_method_80_code 34 = .ok (.bipush 10, 2) := by decide +kernel
theorem d_M_flap_36 : decode prog_14_method_80_code 36 = .ok (.iload_n 1, 1) := by decide +kernel
theorem d_M_flap_37 : decode prog_14_method_80_code 37 = .ok (.iadd, 1) := by decide +kernel
theorem d_M_flap_38 : decode prog_14_method_80_code 38 = .ok (.iaload, 1) := by decide +kernel
theorem d_M_flap_39 : decode prog_14_method_80_code 39 = .ok (.iload_n 2, 1) := by decide +kernel
theorem d_M_flap_40 : decode prog_14_method_80_code 40 = .ok (.if_icmp .ne 5, 3) := by decide +kernel
theorem d_M_flap_43 : decode prog_14_method_80_code 43 = .ok (.iconst 0, 1) := by decide +kernel
theorem d_M_flap_44 : decode prog_14_method_80_code 44 = .ok (.ireturn, 1) := by decide +kernel
theorem d_M_flap_45 : decode prog_14_method_80_code 45 = .ok (.aload_n 0, 1) := by decide +kernel
theorem d_M_flap_46 : decode prog_14_method_80_code 46 = .ok (.invokevirtual 357, 3) := by decide +kernel
theorem d_M_flap_49 : decode prog_14_method_80_code 49 = .ok (.aload_n 0, 1) := by decide +kernel
theorem d_M_flap_50 : decode prog_14_method_80_code 50 = .ok (.getfield 110, 3) := by decide +kernel
theorem d_M_flap_53 : decode prog_14_method_80_code 53 = .ok (.iconst 5, 1) := by decide +kernel
theorem d_M_flap_54 : decode prog_14_method_80_code 54 = .ok (.iload_n 1, 1) := by decide +kernel
theorem d_M_flap_55 : decode prog_14_method_80_code 55 = .ok (.iadd, 1) := by decide +kernel
theorem d_M_flap_56 : decode prog_14_method_80_code 56 = .ok (.iload_n 2, 1) := by decide +kernel
theorem d_M_flap_57 : decode prog_14_method_80_code 57 = .ok (.iastore, 1) := by decide +kernel
theorem d_M_flap_58 : decode prog_14_method_80_code 58 = .ok (.aload_n 0, 1) := by decide +kernel
theorem d_M_flap_59 : decode prog_14_method_80_code 59 = .ok (.getfield 110, 3) := by decide +kernel
theorem d_M_flap_62 : decode prog_14_method_80_code 62 = .ok (.bipush 10, 2) := by decide +kernel
theorem d_M_flap_64 : decode prog_14_method_80_code 64 = .ok (.iload_n 1, 1) := by decide +kernel
theorem d_M_flap_65 : decode prog_14_method_80_code 65 = .ok (.iadd, 1) := by decide +kernel
theorem d_M_flap_66 : decode prog_14_method_80_code 66 = .ok (.iload_n 2, 1) := by decide +kernel
theorem d_M_flap_67 : decode prog_14_method_80_code 67 = .ok (.iastore, 1) := by decide +kernel
theorem d_M_flap_68 : decode prog_14_method_80_code 68 = .ok (.aload_n 0, 1) := by decide +kernel
theorem d_M_flap_69 : decode prog_14_method_80_code 69 = .ok (.invokevirtual 422, 3) := by decide +kernel
theorem d_M_flap_72 : decode prog_14_method_80_code 72 = .ok (.iconst 1, 1) := by decide +kernel
theorem d_M_flap_73 : decode prog_14_method_80_code 73 = .ok (.ireturn, 1) := by decide +kernel
noncomputable def F_M_flap : Sm := sSeq (sIf (cOr (cOr (cNot (o1 (fun x => decide (x ≠ 0)) (cI (mV 12 D_M_isGoer) [asV Value.ref (vR 0), asV Value.int (vI 1)]))) (cNot (o1 (fun x => decide (x ≠ 0)) (cI (D_M_in) [asV Value.int (vI 2), asV Value.int (kI (ii 1)), asV Value.int (kI (ii 6))])))) (cAnd (o2 (fun x y => decide (x = y)) (aI 0 (gR 12 47 (vR 0)) (o2 (fun x y => x + y) (kI (ii 5)) (vI 1))) (vI 2)) (o2 (fun x y => decide (x = y)) (aI 0 (gR 12 47 (vR 0)) (o2 (fun x y => x + y) (kI (ii 10)) (vI 1))) (vI 2)))) (sRetZ (kI (ii 0))) (sSkip)) (sSeq (sCall (mV 12 D_M_copies) [asV Value.ref (vR 0)]) (sSeq (sAst 0 (gR 12 48 (vR 0)) (o2 (fun x y => x + y) (kI (ii 5)) (vI 1)) (vI 2)) (sSeq (sAst 0 (gR 12 48 (vR 0)) (o2 (fun x y => x + y) (kI (ii 10)) (vI 1)) (vI 2)) (sSeq (sCall (mV 12 D_M_records) [asV Value.ref (vR 0)]) (sRetZ (kI (ii 1)))))))
theorem mf_M_flap : Mf y_M_flap prog_14_method_80_code 3 (some .boolean) 2 := ⟨tw_1812, tw_134, by decide +kernel⟩
noncomputable def D_M_flap : Dn := runS [1, 1, 1] F_M_flap
theorem ok_M_flap : MOK y_M_flap prog_14_method_80_code 3 (some .boolean) 4 0 0 D_M_flap := MOK.of (by decide) (by decide) (show SO Y_M_flap [(0, 1), (1, 1), (2, 1)] [(0, 1), (1, 1), (2, 1)] 0 74 (([], 0), ([], 0)) F_M_flap from
  (s_seq (sl1 := [(0, 1), (1, 1), (2, 1)]) (p1 := 45) (s_if (pt := 43) (pf := 45) (c_or (p1 := 18) (c_or (p1 := 8) (c_not (c_if_eqF (p1 := 5) (tg := 43) (e_cI (p1 := 2) (a_cons (ι := Value.ref) (k0 := 1) (p1 := 1) (fun _ => rfl) (e_aload_n (k0 := 0) d_M_flap_0 rfl rfl) (a_cons (ι := Value.int) (k0 := 1) (p1 := 2) (fun _ => rfl) (e_iload_n (k0 := 1) d_M_flap_1 rfl rfl) a_nil)) (k_virt ok_M_isGoer mf_M_isGoer ⟨tw_1715, tw_75⟩ rfl tw_1713 d_M_flap_2 (by decide) (by decide) (by decide))) d_M_flap_5 rfl)) (c_not (c_if_eqF (p1 := 15) (tg := 43) (e_cI (p1 := 12) (a_cons (ι := Value.int) (k0 := 1) (p1 := 9) (fun _ => rfl) (e_iload_n (k0 := 2) d_M_flap_8 rfl rfl) (a_cons (ι := Value.int) (k0 := 1) (p1 := 10) (fun _ => rfl) (e_iconst d_M_flap_9 (by decide)) (a_cons (ι := Value.int) (k0 := 1) (p1 := 12) (fun _ => rfl) (e_bipush d_M_flap_10 (by decide)) a_nil))) (k_stat ok_M_in mf_M_in tw_1703 tw_1702 d_M_flap_12 (by decide) (by decide) (by decide))) d_M_flap_15 rfl))) (c_and (p1 := 30) (c_icmp_neF (p1 := 26) (p2 := 27) (tg := 45) (e_iald (p1 := 22) (p2 := 25) (e_gR (k0 := 47) (p1 := 19) cf_12 (e_aload_n (k0 := 0) d_M_flap_18 rfl rfl) (by decide) tw_1407 d_M_flap_19) (e_iadd (p1 := 23) (p2 := 24) (e_iconst d_M_flap_22 (by decide)) (e_iload_n (k0 := 1) d_M_flap_23 rfl rfl) d_M_flap_24) d_M_flap_25) (e_iload_n (k0 := 2) d_M_flap_26 rfl rfl) d_M_flap_27 rfl) (c_icmp_neF (p1 := 39) (p2 := 40) (tg := 45) (e_iald (p1 := 34) (p2 := 38) (e_gR (k0 := 47) (p1 := 31) cf_12 (e_aload_n (k0 := 0) d_M_flap_30 rfl rfl) (by decide) tw_1407 d_M_flap_31) (e_iadd (p1 := 36) (p2 := 37) (e_bipush d_M_flap_34 (by decide)) (e_iload_n (k0 := 1) d_M_flap_36 rfl rfl) d_M_flap_37) d_M_flap_38) (e_iload_n (k0 := 2) d_M_flap_39 rfl rfl) d_M_flap_40 rfl))) (s_retZ (p1 := 44) (e_iconst d_M_flap_43 (by decide)) rfl d_M_flap_44) s_skip) (s_seq (sl1 := [(0, 1), (1, 1), (2, 1)]) (p1 := 49) (s_call (p1 := 46) (a_cons (ι := Value.ref) (k0 := 1) (p1 := 46) (fun _ => rfl) (e_aload_n (k0 := 0) d_M_flap_45 rfl rfl) a_nil) (k_virt ok_M_copies mf_M_copies ⟨tw_1707, tw_73⟩ rfl tw_1705 d_M_flap_46 (by decide) (by decide) (by decide))) (s_seq (sl1 := [(0, 1), (1, 1), (2, 1)]) (p1 := 58) (s_ast (p1 := 53) (p2 := 56) (p3 := 57) (e_gR (k0 := 48) (p1 := 50) cf_12 (e_aload_n (k0 := 0) d_M_flap_49 rfl rfl) (by decide) tw_1408 d_M_flap_50) (e_iadd (p1 := 54) (p2 := 55) (e_iconst d_M_flap_53 (by decide)) (e_iload_n (k0 := 1) d_M_flap_54 rfl rfl) d_M_flap_55) (e_iload_n (k0 := 2) d_M_flap_56 rfl rfl) (as_i d_M_flap_57)) (s_seq (sl1 := [(0, 1), (1, 1), (2, 1)]) (p1 := 68) (s_ast (p1 := 62) (p2 := 66) (p3 := 67) (e_gR (k0 := 48) (p1 := 59) cf_12 (e_aload_n (k0 := 0) d_M_flap_58 rfl rfl) (by decide) tw_1408 d_M_flap_59) (e_iadd (p1 := 64) (p2 := 65) (e_bipush d_M_flap_62 (by decide)) (e_iload_n (k0 := 1) d_M_flap_64 rfl rfl) d_M_flap_65) (e_iload_n (k0 := 2) d_M_flap_66 rfl rfl) (as_i d_M_flap_67)) (s_seq (sl1 := [(0, 1), (1, 1), (2, 1)]) (p1 := 72) (s_call (p1 := 69) (a_cons (ι := Value.ref) (k0 := 1) (p1 := 69) (fun _ => rfl) (e_aload_n (k0 := 0) d_M_flap_68 rfl rfl) a_nil) (k_virt ok_M_records mf_M_records ⟨tw_1815, tw_94⟩ rfl tw_1813 d_M_flap_69 (by decide) (by decide) (by decide))) (s_retZ (p1 := 73) (e_iconst d_M_flap_72 (by decide)) rfl d_M_flap_73)))))))
/-! BlinkerCrossModel.turn(II)Z -/
abbrev y_M_turn : MethodName := ⟨"BlinkerCrossModel", "turn", "(II)Z"⟩
abbrev Y_M_turn : Yt := (prog_14_method_81_code, 3, "BlinkerCrossModel", 5, (some .boolean), "turn")
theorem d_M_turn_0 : decode prog_14_method_81_code 0 = .ok (.aload_n 0, 1) := by decide +kernel
theorem d_M_turn_1 : decode prog_14_method_81_code 1 = .ok (.iload_n 1, 1) := by decide +kernel
theorem d_M_turn_2 : decode prog_14_method_81_code 2 = .ok (.invokevirtual 345, 3) := by decide +kernel
theorem d_M_turn_5 : decode prog_14_method_81_code 5 = .ok (.ifCond .eq 34, 3) := by decide +kernel
theorem d_M_turn_8 : decode prog_14_method_81_code 8 = .ok (.aload_n 0, 1) := by decide +kernel
theorem d_M_turn_9 : decode prog_14_method_81_code 9 = .ok (.iload_n 2, 1) := by decide +kernel
theorem d_M_turn_10 : decode prog_14_method_81_code 10 = .ok (.invokevirtual 412, 3) := by decide +kernel
theorem d_M_turn_13 : decode prog_14_method_81_code 13 = .ok (.ifCond .eq 26, 3) := by decide +kernel
theorem d_M_turn_16 : decode prog_14_method_81_code 16 = .ok (.aload_n 0, 1) := by decide +kernel
theorem d_M_turn_17 : decode prog_14_method_81_code 17 = .ok (.getfield 107, 3) := by decide +kernel
theorem d_M_turn_20 : decode prog_14_method_81_code 20 = .ok (.iload_n 1, 1) := by decide +kernel
theorem d_M_turn_21 : decode prog_14_method_81_code 21 = .ok (.iaload, 1) := by decide +kernel
theorem d_M_turn_22 : decode prog_14_method_81_code 22 = .ok (.iload_n 2, 1) := by decide +kernel
theorem d_M_turn_23 : decode prog_14_method_81_code 23 = .ok (.if_icmp .eq 16, 3) := by decide +kernel
theorem d_M_turn_26 : decode prog_14_method_81_code 26 = .ok (.aload_n 0, 1) := by decide +kernel
theorem d_M_turn_27 : decode prog_14_method_81_code 27 = .ok (.iload_n 1, 1) := by decide +kernel
theorem d_M_turn_28 : decode prog_14_method_81_code 28 = .ok (.iload_n 2, 1) := by decide +kernel
theorem d_M_turn_29 : decode prog_14_method_81_code 29 = .ok (.invokevirtual 425, 3) := by decide +kernel
theorem d_M_turn_32 : decode prog_14_method_81_code 32 = .ok (.ifCond .eq 7, 3) := by decide +kernel
theorem d_M_turn_35 : decode prog_14_method_81_code 35 = .ok (.iconst 1, 1) := by decide +kernel
theorem d_M_turn_36 : decode prog_14_method_81_code 36 = .ok (.goto 4, 3) := by decide +kernel
theorem d_M_turn_39 : decode prog_14_method_81_code 39 = .ok (.iconst 0, 1) := by decide +kernel
theorem d_M_turn_40 : decode prog_14_method_81_code 40 = .ok (.ireturn, 1) := by decide +kernel
noncomputable def F_M_turn : Sm := sRetZ (bX (cAnd (cAnd (cAnd (o1 (fun x => decide (x ≠ 0)) (cI (mV 12 D_M_isGoer) [asV Value.ref (vR 0), asV Value.int (vI 1)])) (o1 (fun x => decide (x ≠ 0)) (cI (mV 12 D_M_isRoad) [asV Value.ref (vR 0), asV Value.int (vI 2)]))) (o2 (fun x y => decide (x ≠ y)) (aI 0 (gR 12 47 (vR 0)) (vI 1)) (vI 2))) (o1 (fun x => decide (x ≠ 0)) (cI (mV 12 D_M_does) [asV Value.ref (vR 0), asV Value.int (vI 1), asV Value.int (vI 2)]))))
theorem mf_M_turn : Mf y_M_turn prog_14_method_81_code 3 (some .boolean) 2 := ⟨tw_1820, tw_134, by decide +kernel⟩
noncomputable def D_M_turn : Dn := runS [1, 1, 1] F_M_turn
theorem ok_M_turn : MOK y_M_turn prog_14_method_81_code 3 (some .boolean) 5 0 0 D_M_turn := MOK.of (by decide) (by decide) (show SO Y_M_turn [(0, 1), (1, 1), (2, 1)] [(0, 1), (1, 1), (2, 1)] 0 41 (([], 0), ([], 0)) F_M_turn from
  (s_retZ (p1 := 40) (e_bool (pt := 35) (pf := 39) (c_and (p1 := 26) (c_and (p1 := 16) (c_and (p1 := 8) (c_if_eqF (p1 := 5) (tg := 39) (e_cI (p1 := 2) (a_cons (ι := Value.ref) (k0 := 1) (p1 := 1) (fun _ => rfl) (e_aload_n (k0 := 0) d_M_turn_0 rfl rfl) (a_cons (ι := Value.int) (k0 := 1) (p1 := 2) (fun _ => rfl) (e_iload_n (k0 := 1) d_M_turn_1 rfl rfl) a_nil)) (k_virt ok_M_isGoer mf_M_isGoer ⟨tw_1715, tw_75⟩ rfl tw_1713 d_M_turn_2 (by decide) (by decide) (by decide))) d_M_turn_5 rfl) (c_if_eqF (p1 := 13) (tg := 39) (e_cI (p1 := 10) (a_cons (ι := Value.ref) (k0 := 1) (p1 := 9) (fun _ => rfl) (e_aload_n (k0 := 0) d_M_turn_8 rfl rfl) (a_cons (ι := Value.int) (k0 := 1) (p1 := 10) (fun _ => rfl) (e_iload_n (k0 := 2) d_M_turn_9 rfl rfl) a_nil)) (k_virt ok_M_isRoad mf_M_isRoad ⟨tw_1700, tw_72⟩ rfl tw_1698 d_M_turn_10 (by decide) (by decide) (by decide))) d_M_turn_13 rfl)) (c_icmp_eqF (p1 := 22) (p2 := 23) (tg := 39) (e_iald (p1 := 20) (p2 := 21) (e_gR (k0 := 47) (p1 := 17) cf_12 (e_aload_n (k0 := 0) d_M_turn_16 rfl rfl) (by decide) tw_1407 d_M_turn_17) (e_iload_n (k0 := 1) d_M_turn_20 rfl rfl) d_M_turn_21) (e_iload_n (k0 := 2) d_M_turn_22 rfl rfl) d_M_turn_23 rfl)) (c_if_eqF (p1 := 32) (tg := 39) (e_cI (p1 := 29) (a_cons (ι := Value.ref) (k0 := 1) (p1 := 27) (fun _ => rfl) (e_aload_n (k0 := 0) d_M_turn_26 rfl rfl) (a_cons (ι := Value.int) (k0 := 1) (p1 := 28) (fun _ => rfl) (e_iload_n (k0 := 1) d_M_turn_27 rfl rfl) (a_cons (ι := Value.int) (k0 := 1) (p1 := 29) (fun _ => rfl) (e_iload_n (k0 := 2) d_M_turn_28 rfl rfl) a_nil))) (k_virt ok_M_does mf_M_does ⟨tw_1823, tw_95⟩ rfl tw_1821 d_M_turn_29 (by decide) (by decide) (by decide))) d_M_turn_32 rfl)) d_M_turn_35 d_M_turn_36 rfl d_M_turn_39 rfl) rfl d_M_turn_40))

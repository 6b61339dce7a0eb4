/-! Methods: bytes, denotations, that the bytes do so (written by wip/whole/jgen.py). -/
/-! BlinkerCrossModel.wish(III)Z -/
abbrev y_M_wish : MethodName := ⟨"BlinkerCrossModel", "wish", "(III)Z"⟩
abbrev Y_M_wish : Yt := (prog_14_method_82_code, 4, "BlinkerCrossModel", 5, (some .boolean), "wish")
theorem d_M_wish_0 : decode prog_14_method_82_code 0 = .ok (.aload_n 0, 1) := by decide +kernel
theorem d_M_wish_1 : decode prog_14_method_82_code 1 = .ok (.iload_n 1, 1) := by decide +kernel
theorem d_M_wish_2 : decode prog_14_method_82_code 2 = .ok (.invokevirtual 345, 3) := by decide +kernel
theorem d_M_wish_5 : decode prog_14_method_82_code 5 = .ok (.ifCond .eq 60, 3) := by decide +kernel
theorem d_M_wish_8 : decode prog_14_method_82_code 8 = .ok (.aload_n 0, 1) := by decide +kernel
theorem d_M_wish_9 : decode prog_14_method_82_code 9 = .ok (.iload_n 2, 1) := by decide +kernel
theorem d_M_wish_10 : decode prog_14_method_82_code 10 = .ok (.invokevirtual 412, 3) := by decide +kernel
theorem d_M_wish_13 : decode prog_14_method_82_code 13 = .ok (.ifCond .eq 52, 3) := by decide +kernel
theorem d_M_wish_16 : decode prog_14_method_82_code 16 = .ok (.iload_n 3, 1) := by decide +kernel
theorem d_M_wish_17 : decode prog_14_method_82_code 17 = .ok (.iconst 0, 1) := by decide +kernel
theorem d_M_wish_18 : decode prog_14_method_82_code 18 = .ok (.bipush 99, 2) := by decide +kernel
theorem d_M_wish_20 : decode prog_14_method_82_code 20 = .ok (.invokestatic 319, 3) := by decide +kernel
theorem d_M_wish_23 : decode prog_14_method_82_code 23 = .ok (.ifCond .eq 42, 3) := by decide +kernel
theorem d_M_wish_26 : decode prog_14_method_82_code 26 = .ok (.aload_n 0, 1) := by decide +kernel
theorem d_M_wish_27 : decode prog_14_method_82_code 27 = .ok (.getfield 107, 3) := by decide +kernel
theorem d_M_wish_30 : decode prog_14_method_82_code 30 = .ok (.bipush 25, 2) := by decide +kernel
theorem d_M_wish_32 : decode prog_14_method_82_code 32 = .ok (.bipush 6, 2) := by decide +kernel
theorem d_M_wish_34 : decode prog_14_method_82_code 34 = .ok (.iload_n 1, 1) := by decide +kernel
theorem d_M_wish_35 : decode prog_14_method_82_code 35 = .ok (.imul, 1) := by decide +kernel
theorem d_M_wish_36 : decode prog_14_method_82_code 36 = .ok (.iadd, 1) := by decide +kernel
theorem d_M_wish_37 : decode prog_14_method_82_code 37 = .ok (.iload_n 2, 1) := by decide +kernel
theorem d_M_wish_38 : decode prog_14_method_82_code 38 = .ok (.iadd, 1) := by decide +kernel
theorem d_M_wish_39 : decode prog_14_method_82_code 39 = .ok (.iaload, 1) := by decide +kernel
theorem d_M_wish_40 : decode prog_14_method_82_code 40 = .ok (.iload_n 3, 1) := by decide +kernel
theorem d_M_wish_41 : decode prog_14_method_82_code 41 = .ok (.if_icmp .eq 24, 3) := by decide +kernel
theorem d_M_wish_44 : decode prog_14_method_82_code 44 = .ok (.aload_n 0, 1) := by decide +kernel
theorem d_M_wish_45 : decode prog_14_method_82_code 45 = .ok (.bipush 25, 2) := by decide +kernel
theorem d_M_wish_47 : decode prog_14_method_82_code 47 = .ok (.bipush 6, 2) := by decide +kernel
theorem d_M_wish_49 : decode prog_14_method_82_code 49 = .ok (.iload_n 1, 1) := by decide +kernel
theorem d_M_wish_50 : decode prog_14_method_82_code 50 = .ok (.imul, 1) := by decide +kernel
theorem d_M_wish_51 : decode prog_14_method_82_code 51 = .ok (.iadd, 1) := by decide +kernel
theorem d_M_wish_52 : decode prog_14_method_82_code 52 = .ok (.iload_n 2, 1) := by decide +kernel
theorem d_M_wish_53 : decode prog_14_method_82_code 53 = .ok (.iadd, 1) := by decide +kernel
theorem d_M_wish_54 : decode prog_14_method_82_code 54 = .ok (.iload_n 3, 1) := by decide +kernel
theorem d_M_wish_55 : decode prog_14_method_82_code 55 = .ok (.invokevirtual 425, 3) := by decide +kernel
theorem d_M_wish_58 : decode prog_14_method_82_code 58 = .ok (.ifCond .eq 7, 3) := by decide +kernel
theorem d_M_wish_61 : decode prog_14_method_82_code 61 = .ok (.iconst 1, 1) := by decide +kernel
theorem d_M_wish_62 : decode prog_14_method_82_code 62 = .ok (.goto 4, 3) := by decide +kernel
theorem d_M_wish_65 : decode prog_14_method_82_code 65 = .ok (.iconst 0, 1) := by decide +kernel
theorem d_M_wish_66 : decode prog_14_method_82_code 66 = .ok (.ireturn, 1) := by decide +kernel
noncomputable def F_M_wish : Sm := sRetZ (bX (cAnd (cAnd (cAnd (cAnd (o1 (fun x => decide (x ≠ 0)) (cI (mV 12 D_M_isGoer) [asV Value.ref (vR 0), asV Value.int (vI 1)])) (o1 (fun x => decide (x ≠ 0)) (cI (mV 12 D_M_isRoad) [asV Value.ref (vR 0), asV Value.int (vI 2)]))) (o1 (fun x => decide (x ≠ 0)) (cI (D_M_in) [asV Value.int (vI 3), asV Value.int (kI (ii 0)), asV Value.int (kI (ii 99))]))) (o2 (fun x y => decide (x ≠ y)) (aI 0 (gR 12 47 (vR 0)) (o2 (fun x y => x + y) (o2 (fun x y => x + y) (kI (ii 25)) (o2 (fun x y => x * y) (kI (ii 6)) (vI 1))) (vI 2))) (vI 3))) (o1 (fun x => decide (x ≠ 0)) (cI (mV 12 D_M_does) [asV Value.ref (vR 0), asV Value.int (o2 (fun x y => x + y) (o2 (fun x y => x + y) (kI (ii 25)) (o2 (fun x y => x * y) (kI (ii 6)) (vI 1))) (vI 2)), asV Value.int (vI 3)]))))
theorem mf_M_wish : Mf y_M_wish prog_14_method_82_code 4 (some .boolean) 3 := ⟨tw_1828, tw_134, by decide +kernel⟩
noncomputable def D_M_wish : Dn := runS [1, 1, 1, 1] F_M_wish
theorem ok_M_wish : MOK y_M_wish prog_14_method_82_code 4 (some .boolean) 5 0 0 D_M_wish := MOK.of (by decide) (by decide) (show SO Y_M_wish [(0, 1), (1, 1), (2, 1), (3, 1)] [(0, 1), (1, 1), (2, 1), (3, 1)] 0 67 (([], 0), ([], 0)) F_M_wish from
  (s_retZ (p1 := 66) (e_bool (pt := 61) (pf := 65) (c_and (p1 := 44) (c_and (p1 := 26) (c_and (p1 := 16) (c_and (p1 := 8) (c_if_eqF (p1 := 5) (tg := 65) (e_cI (p1 := 2) (a_cons (ι := Value.ref) (k0 := 1) (p1 := 1) (fun _ => rfl) (e_aload_n (k0 := 0) d_M_wish_0 rfl rfl) (a_cons (ι := Value.int) (k0 := 1) (p1 := 2) (fun _ => rfl) (e_iload_n (k0 := 1) d_M_wish_1 rfl rfl) a_nil)) (k_virt ok_M_isGoer mf_M_isGoer ⟨tw_1715, tw_75⟩ rfl tw_1713 d_M_wish_2 (by decide) (by decide) (by decide))) d_M_wish_5 rfl) (c_if_eqF (p1 := 13) (tg := 65) (e_cI (p1 := 10) (a_cons (ι := Value.ref) (k0 := 1) (p1 := 9) (fun _ => rfl) (e_aload_n (k0 := 0) d_M_wish_8 rfl rfl) (a_cons (ι := Value.int) (k0 := 1) (p1 := 10) (fun _ => rfl) (e_iload_n (k0 := 2) d_M_wish_9 rfl rfl) a_nil)) (k_virt ok_M_isRoad mf_M_isRoad ⟨tw_1700, tw_72⟩ rfl tw_1698 d_M_wish_10 (by decide) (by decide) (by decide))) d_M_wish_13 rfl)) (c_if_eqF (p1 := 23) (tg := 65) (e_cI (p1 := 20) (a_cons (ι := Value.int) (k0 := 1) (p1 := 17) (fun _ => rfl) (e_iload_n (k0 := 3) d_M_wish_16 rfl rfl) (a_cons (ι := Value.int) (k0 := 1) (p1 := 18) (fun _ => rfl) (e_iconst d_M_wish_17 (by decide)) (a_cons (ι := Value.int) (k0 := 1) (p1 := 20) (fun _ => rfl) (e_bipush d_M_wish_18 (by decide)) a_nil))) (k_stat ok_M_in mf_M_in tw_1703 tw_1702 d_M_wish_20 (by decide) (by decide) (by decide))) d_M_wish_23 rfl)) (c_icmp_eqF (p1 := 40) (p2 := 41) (tg := 65) (e_iald (p1 := 30) (p2 := 39) (e_gR (k0 := 47) (p1 := 27) cf_12 (e_aload_n (k0 := 0) d_M_wish_26 rfl rfl) (by decide) tw_1407 d_M_wish_27) (e_iadd (p1 := 37) (p2 := 38) (e_iadd (p1 := 32) (p2 := 36) (e_bipush d_M_wish_30 (by decide)) (e_imul (p1 := 34) (p2 := 35) (e_bipush d_M_wish_32 (by decide)) (e_iload_n (k0 := 1) d_M_wish_34 rfl rfl) d_M_wish_35) d_M_wish_36) (e_iload_n (k0 := 2) d_M_wish_37 rfl rfl) d_M_wish_38) d_M_wish_39) (e_iload_n (k0 := 3) d_M_wish_40 rfl rfl) d_M_wish_41 rfl)) (c_if_eqF (p1 := 58) (tg := 65) (e_cI (p1 := 55) (a_cons (ι := Value.ref) (k0 := 1) (p1 := 45) (fun _ => rfl) (e_aload_n (k0 := 0) d_M_wish_44 rfl rfl) (a_cons (ι := Value.int) (k0 := 1) (p1 := 54) (fun _ => rfl) (e_iadd (p1 := 52) (p2 := 53) (e_iadd (p1 := 47) (p2 := 51) (e_bipush d_M_wish_45 (by decide)) (e_imul (p1 := 49) (p2 := 50) (e_bipush d_M_wish_47 (by decide)) (e_iload_n (k0 := 1) d_M_wish_49 rfl rfl) d_M_wish_50) d_M_wish_51) (e_iload_n (k0 := 2) d_M_wish_52 rfl rfl) d_M_wish_53) (a_cons (ι := Value.int) (k0 := 1) (p1 := 55) (fun _ => rfl) (e_iload_n (k0 := 3) d_M_wish_54 rfl rfl) a_nil))) (k_virt ok_M_does mf_M_does ⟨tw_1823, tw_95⟩ rfl tw_1821 d_M_wish_55 (by decide) (by decide) (by decide))) d_M_wish_58 rfl)) d_M_wish_61 d_M_wish_62 rfl d_M_wish_65 rfl) rfl d_M_wish_66))
/-! BlinkerCrossModel.isLong(I)Z -/
abbrev y_M_isLong : MethodName := ⟨"BlinkerCrossModel", "isLong", "(I)Z"⟩
abbrev Y_M_isLong : Yt := (prog_14_method_83_code, 1, "BlinkerCrossModel", 1, (some .boolean), "isLong")
theorem d_M_isLong_0 : decode prog_14_method_83_code 0 = .ok (.iload_n 0, 1) := by decide +kernel
theorem d_M_isLong_1 : decode prog_14_method_83_code 1 = .ok (.iconst 0, 1) := by decide +kernel
theorem d_M_isLong_2 : decode prog_14_method_83_code 2 = .ok (.bipush 60, 2) := by decide +kernel
theorem d_M_isLong_4 : decode prog_14_method_83_code 4 = .ok (.invokestatic 319, 3) := by decide +kernel
theorem d_M_isLong_7 : decode prog_14_method_83_code 7 = .ok (.ireturn, 1) := by decide +kernel
noncomputable def F_M_isLong : Sm := sRetZ (cI (D_M_in) [asV Value.int (vI 0), asV Value.int (kI (ii 0)), asV Value.int (kI (ii 60))])
theorem mf_M_isLong : Mf y_M_isLong prog_14_method_83_code 1 (some .boolean) 1 := ⟨tw_1835, tw_134, by decide +kernel⟩
noncomputable def D_M_isLong : Dn := runS [1] F_M_isLong
theorem ok_M_isLong : MOK y_M_isLong prog_14_method_83_code 1 (some .boolean) 1 0 0 D_M_isLong := MOK.of (by decide) (by decide) (show SO Y_M_isLong [(0, 1)] [(0, 1)] 0 8 (([], 0), ([], 0)) F_M_isLong from
  (s_retZ (p1 := 7) (e_cI (p1 := 4) (a_cons (ι := Value.int) (k0 := 1) (p1 := 1) (fun _ => rfl) (e_iload_n (k0 := 0) d_M_isLong_0 rfl rfl) (a_cons (ι := Value.int) (k0 := 1) (p1 := 2) (fun _ => rfl) (e_iconst d_M_isLong_1 (by decide)) (a_cons (ι := Value.int) (k0 := 1) (p1 := 4) (fun _ => rfl) (e_bipush d_M_isLong_2 (by decide)) a_nil))) (k_stat ok_M_in mf_M_in tw_1703 tw_1702 d_M_isLong_4 (by decide) (by decide) (by decide))) rfl d_M_isLong_7))
/-! BlinkerCrossModel.days(I)I -/
abbrev y_M_days : MethodName := ⟨"BlinkerCrossModel", "days", "(I)I"⟩
abbrev Y_M_days : Yt := (prog_14_method_84_code, 2, "BlinkerCrossModel", 8, (some .int), "days")
theorem d_M_days_0 : decode prog_14_method_84_code 0 = .ok (.iload_n 1, 1) := by decide +kernel
theorem d_M_days_1 : decode prog_14_method_84_code 1 = .ok (.invokestatic 429, 3) := by decide +kernel
theorem d_M_days_4 : decode prog_14_method_84_code 4 = .ok (.ifCond .ne 5, 3) := by decide +kernel
theorem d_M_days_7 : decode prog_14_method_84_code 7 = .ok (.iconst (-1), 1) := by decide +kernel
theorem d_M_days_8 : decode prog_14_method_84_code 8 = .ok (.ireturn, 1) := by decide +kernel
theorem d_M_days_9 : decode prog_14_method_84_code 9 = .ok (.iload_n 1, 1) := by decide +kernel
theorem d_M_days_10 : decode prog_14_method_84_code 10 = .ok (.ifCond .ne 11, 3) := by decide +kernel
theorem d_M_days_13 : decode prog_14_method_84_code 13 = .ok (.aload_n 0, 1) := by decide +kernel
theorem d_M_days_14 : decode prog_14_method_84_code 14 = .ok (.getfield 107, 3) := by decide +kernel
theorem d_M_days_17 : decode prog_14_method_84_code 17 = .ok (.bipush 55, 2) := by decide +kernel
theorem d_M_days_19 : decode prog_14_method_84_code 19 = .ok (.iaload, 1) := by decide +kernel
theorem d_M_days_20 : decode prog_14_method_84_code 20 = .ok (.ireturn, 1) := by decide +kernel
theorem d_M_days_21 : decode prog_14_method_84_code 21 = .ok (.aload_n 0, 1) := by decide +kernel
theorem d_M_days_22 : decode prog_14_method_84_code 22 = .ok (.invokevirtual 357, 3) := by decide +kernel
theorem d_M_days_25 : decode prog_14_method_84_code 25 = .ok (.aload_n 0, 1) := by decide +kernel
theorem d_M_days_26 : decode prog_14_method_84_code 26 = .ok (.iload_n 1, 1) := by decide +kernel
theorem d_M_days_27 : decode prog_14_method_84_code 27 = .ok (.invokevirtual 432, 3) := by decide +kernel
theorem d_M_days_30 : decode prog_14_method_84_code 30 = .ok (.aload_n 0, 1) := by decide +kernel
theorem d_M_days_31 : decode prog_14_method_84_code 31 = .ok (.invokevirtual 422, 3) := by decide +kernel
theorem d_M_days_34 : decode prog_14_method_84_code 34 = .ok (.aload_n 0, 1) := by decide +kernel
theorem d_M_days_35 : decode prog_14_method_84_code 35 = .ok (.getfield 107, 3) := by decide +kernel
theorem d_M_days_38 : decode prog_14_method_84_code 38 = .ok (.bipush 55, 2) := by decide +kernel
theorem d_M_days_40 : decode prog_14_method_84_code 40 = .ok (.iaload, 1) := by decide +kernel
theorem d_M_days_41 : decode prog_14_method_84_code 41 = .ok (.ireturn, 1) := by decide +kernel
noncomputable def F_M_days : Sm := sSeq (sIf (cNot (o1 (fun x => decide (x ≠ 0)) (cI (D_M_isLong) [asV Value.int (vI 1)]))) (sRet (asV Value.int (kI (ii (-1))))) (sSkip)) (sSeq (sIf (o1 (fun x => decide (x = 0)) (vI 1)) (sRet (asV Value.int (aI 0 (gR 12 47 (vR 0)) (kI (ii 55))))) (sSkip)) (sSeq (sCall (mV 12 D_M_copies) [asV Value.ref (vR 0)]) (sSeq (sCall (mV 12 D_M_goes) [asV Value.ref (vR 0), asV Value.int (vI 1)]) (sSeq (sCall (mV 12 D_M_records) [asV Value.ref (vR 0)]) (sRet (asV Value.int (aI 0 (gR 12 47 (vR 0)) (kI (ii 55)))))))))
theorem mf_M_days : Mf y_M_days prog_14_method_84_code 2 (some .int) 1 := ⟨tw_1832, tw_134, by decide +kernel⟩
noncomputable def D_M_days : Dn := runS [1, 1] F_M_days
theorem ok_M_days : MOK y_M_days prog_14_method_84_code 2 (some .int) 8 0 0 D_M_days := MOK.of (by decide) (by decide) (show SO Y_M_days [(0, 1), (1, 1)] [(0, 1), (1, 1)] 0 42 (([], 0), ([], 0)) F_M_days from
  (s_seq (sl1 := [(0, 1), (1, 1)]) (p1 := 9) (s_if (pt := 7) (pf := 9) (c_not (c_if_neT (p1 := 4) (tg := 9) (e_cI (p1 := 1) (a_cons (ι := Value.int) (k0 := 1) (p1 := 1) (fun _ => rfl) (e_iload_n (k0 := 1) d_M_days_0 rfl rfl) a_nil) (k_stat ok_M_isLong mf_M_isLong tw_1834 tw_1833 d_M_days_1 (by decide) (by decide) (by decide))) d_M_days_4 rfl)) (s_ret (p1 := 8) (e_iconst d_M_days_7 (by decide)) rfl d_M_days_8) s_skip) (s_seq (sl1 := [(0, 1), (1, 1)]) (p1 := 21) (s_if (pt := 13) (pf := 21) (c_if_neF (p1 := 10) (tg := 21) (e_iload_n (k0 := 1) d_M_days_9 rfl rfl) d_M_days_10 rfl) (s_ret (p1 := 20) (e_iald (p1 := 17) (p2 := 19) (e_gR (k0 := 47) (p1 := 14) cf_12 (e_aload_n (k0 := 0) d_M_days_13 rfl rfl) (by decide) tw_1407 d_M_days_14) (e_bipush d_M_days_17 (by decide)) d_M_days_19) rfl d_M_days_20) s_skip) (s_seq (sl1 := [(0, 1), (1, 1)]) (p1 := 25) (s_call (p1 := 22) (a_cons (ι := Value.ref) (k0 := 1) (p1 := 22) (fun _ => rfl) (e_aload_n (k0 := 0) d_M_days_21 rfl rfl) a_nil) (k_virt ok_M_copies mf_M_copies ⟨tw_1707, tw_73⟩ rfl tw_1705 d_M_days_22 (by decide) (by decide) (by decide))) (s_seq (sl1 := [(0, 1), (1, 1)]) (p1 := 30) (s_call (p1 := 27) (a_cons (ι := Value.ref) (k0 := 1) (p1 := 26) (fun _ => rfl) (e_aload_n (k0 := 0) d_M_days_25 rfl rfl) (a_cons (ι := Value.int) (k0 := 1) (p1 := 27) (fun _ => rfl) (e_iload_n (k0 := 1) d_M_days_26 rfl rfl) a_nil)) (k_virt ok_M_goes mf_M_goes ⟨tw_1838, tw_96⟩ rfl tw_1836 d_M_days_27 (by decide) (by decide) (by decide))) (s_seq (sl1 := [(0, 1), (1, 1)]) (p1 := 34) (s_call (p1 := 31) (a_cons (ι := Value.ref) (k0 := 1) (p1 := 31) (fun _ => rfl) (e_aload_n (k0 := 0) d_M_days_30 rfl rfl) a_nil) (k_virt ok_M_records mf_M_records ⟨tw_1815, tw_94⟩ rfl tw_1813 d_M_days_31 (by decide) (by decide) (by decide))) (s_ret (p1 := 41) (e_iald (p1 := 38) (p2 := 40) (e_gR (k0 := 47) (p1 := 35) cf_12 (e_aload_n (k0 := 0) d_M_days_34 rfl rfl) (by decide) tw_1407 d_M_days_35) (e_bipush d_M_days_38 (by decide)) d_M_days_40) rfl d_M_days_41)))))))
/-! BlinkerCrossModel.undo()Z -/
abbrev y_M_undo : MethodName := ⟨"BlinkerCrossModel", "undo", "()Z"⟩
abbrev Y_M_undo : Yt := (prog_14_method_85_code, 2, "BlinkerCrossModel", 0, (some .boolean), "undo")
theorem d_M_undo_0 : decode prog_14_method_85_code 0 = .ok (.aload_n 0, 1) := by decide +kernel
theorem d_M_undo_1 : decode prog_14_method_85_code 1 = .ok (.getfield 260, 3) := by decide +kernel
theorem d_M_undo_4 : decode prog_14_method_85_code 4 = .ok (.ifCond .ne 5, 3) := by decide +kernel
theorem d_M_undo_7 : decode prog_14_method_85_code 7 = .ok (.iconst 0, 1) := by decide +kernel
theorem d_M_undo_8 : decode prog_14_method_85_code 8 = .ok (.ireturn, 1) := by decide +kernel
theorem d_M_undo_9 : decode prog_14_method_85_code 9 = .ok (.aload_n 0, 1) := by decide +kernel
theorem d_M_undo_10 : decode prog_14_method_85_code 10 = .ok (.dup, 1) := by decide +kernel
theorem d_M_undo_11 : decode prog_14_method_85_code 11 = .ok (.getfield 260, 3) := by decide +kernel
theorem d_M_undo_14 : decode prog_14_method_85_code 14 = .ok (.iconst 1, 1) := by decide +kernel
theorem d_M_undo_15 : decode prog_14_method_85_code 15 = .ok (.isub, 1) := by decide +kernel
theorem d_M_undo_16 : decode prog_14_method_85_code 16 = .ok (.putfield 260, 3) := by decide +kernel
theorem d_M_undo_19 : decode prog_14_method_85_code 19 = .ok (.iconst 0, 1) := by decide +kernel
theorem d_M_undo_20 : decode prog_14_method_85_code 20 = .ok (.istore_n 1, 1) := by decide +kernel
theorem d_M_undo_21 : decode prog_14_method_85_code 21 = .ok (.iload_n 1, 1) := by decide +kernel
theorem d_M_undo_22 : decode prog_14_method_85_code 22 = .ok (.bipush 56, 2) := by decide +kernel
theorem d_M_undo_24 : decode prog_14_method_85_code 24 = .ok (.if_icmp .ge 29, 3) := by decide +kernel
theorem d_M_undo_27 : decode prog_14_method_85_code 27 = .ok (.aload_n 0, 1) := by decide +kernel
theorem d_M_undo_28 : decode prog_14_method_85_code 28 = .ok (.getfield 107, 3) := by decide +kernel
theorem d_M_undo_31 : decode prog_14_method_85_code 31 = .ok (.iload_n 1, 1) := by decide +kernel
theorem d_M_undo_32 : decode prog_14_method_85_code 32 = .ok (.aload_n 0, 1) := by decide +kernel
theorem d_M_undo_33 : decode prog_14_method_85_code 33 = .ok (.getfield 128, 3) := by decide +kernel
theorem d_M_undo_36 : decode prog_14_method_85_code 36 = .ok (.bipush 56, 2) := by decide +kernel
theorem d_M_undo_38 : decode prog_14_method_85_code 38 = .ok (.aload_n 0, 1) := by decide +kernel
theorem d_M_undo_39 : decode prog_14_method_85_code 39 = .ok (.getfield 260, 3) := by decide +kernel
theorem d_M_undo_42 : decode prog_14_method_85_code 42 = .ok (.imul, 1) := by decide +kernel
theorem d_M_undo_43 : decode prog_14_method_85_code 43 = .ok (.iload_n 1, 1) := by decide +kernel
theorem d_M_undo_44 : decode prog_14_method_85_code 44 = .ok (.iadd, 1) := by decide +kernel
theorem d_M_undo_45 : decode prog_14_method_85_code 45 = .ok (.iaload, 1) := by decide +kernel
theorem d_M_undo_46 : decode prog_14_method_85_code 46 = .ok (.iastore, 1) := by decide +kernel
theorem d_M_undo_47 : decode prog_14_method_85_code 47 = .ok (.iinc 1 1, 3) := by decide +kernel
theorem d_M_undo_50 : decode prog_14_method_85_code 50 = .ok (.goto (-29), 3) := by decide +kernel
theorem d_M_undo_53 : decode prog_14_method_85_code 53 = .ok (.iconst 1, 1) := by decide +kernel
theorem d_M_undo_54 : decode prog_14_method_85_code 54 = .ok (.ireturn, 1) := by decide +kernel
noncomputable def Lc_M_undo_1 : Xp Bool := o2 (fun x y => decide (x < y)) (vI 1) (kI (ii 56))
noncomputable def Lb_M_undo_1 : Sm := sAst 0 (gR 12 47 (vR 0)) (vI 1) (aI 0 (gR 12 58 (vR 0)) (o2 (fun x y => x + y) (o2 (fun x y => x * y) (kI (ii 56)) (gI 12 57 (vR 0))) (vI 1)))
noncomputable def Lu_M_undo_1 : Sm := sInc 1 (ii 1)
noncomputable def F_M_undo : Sm := sSeq (sIf (o1 (fun x => decide (x = 0)) (gI 12 57 (vR 0))) (sRetZ (kI (ii 0))) (sSkip)) (sSeq (sFop 12 57 (vR 0) (fun x y => x - y) (kI (ii 1))) (sSeq (sBlk 1 (sSeq (sDecl (asV Value.int (kI (ii 0)))) (sWh (Lc_M_undo_1) (Lb_M_undo_1) Lu_M_undo_1))) (sRetZ (kI (ii 1)))))
theorem mf_M_undo : Mf y_M_undo prog_14_method_85_code 2 (some .boolean) 0 := ⟨tw_1867, tw_134, by decide +kernel⟩
noncomputable def D_M_undo : Dn := runS [1] F_M_undo
theorem ok_M_undo : MOK y_M_undo prog_14_method_85_code 2 (some .boolean) 0 0 0 D_M_undo := MOK.of (by decide) (by decide) (show SO Y_M_undo [(0, 1)] [(0, 1)] 0 55 (([], 0), ([], 0)) F_M_undo from
  (s_seq (sl1 := [(0, 1)]) (p1 := 9) (s_if (pt := 7) (pf := 9) (c_if_neF (p1 := 4) (tg := 9) (e_gI (k0 := 57) (p1 := 1) cf_12 (e_aload_n (k0 := 0) d_M_undo_0 rfl rfl) (by decide) tw_1417 d_M_undo_1) d_M_undo_4 rfl) (s_retZ (p1 := 8) (e_iconst d_M_undo_7 (by decide)) rfl d_M_undo_8) s_skip) (s_seq (sl1 := [(0, 1)]) (p1 := 19) (s_fop (k0 := 57) (p1 := 10) (p2 := 15) cf_12 (e_aload_n (k0 := 0) d_M_undo_9 rfl rfl) d_M_undo_10 d_M_undo_11 (e_iconst d_M_undo_14 (by decide)) (op_isub d_M_undo_15) (by decide) rfl tw_1417 tw_1417 rfl d_M_undo_16) (s_seq (sl1 := [(0, 1)]) (p1 := 53) (s_blk (sl1 := [(0, 1), (1, 1)]) (s_seq (sl1 := [(0, 1), (1, 1)]) (p1 := 21) (s_decl (p1 := 20) (e_iconst d_M_undo_19 (by decide)) (t_istore_n d_M_undo_20 rfl (by decide)) rfl) (s_for (pt := 27) (pu := 47) (pf := 53) (pg := 0) (c_icmp_geF (p1 := 22) (p2 := 24) (tg := 53) (e_iload_n (k0 := 1) d_M_undo_21 rfl rfl) (e_bipush d_M_undo_22 (by decide)) d_M_undo_24 rfl) (s_ast (p1 := 31) (p2 := 32) (p3 := 46) (e_gR (k0 := 47) (p1 := 28) cf_12 (e_aload_n (k0 := 0) d_M_undo_27 rfl rfl) (by decide) tw_1407 d_M_undo_28) (e_iload_n (k0 := 1) d_M_undo_31 rfl rfl) (e_iald (p1 := 36) (p2 := 45) (e_gR (k0 := 58) (p1 := 33) cf_12 (e_aload_n (k0 := 0) d_M_undo_32 rfl rfl) (by decide) tw_1418 d_M_undo_33) (e_iadd (p1 := 43) (p2 := 44) (e_imul (p1 := 38) (p2 := 42) (e_bipush d_M_undo_36 (by decide)) (e_gI (k0 := 57) (p1 := 39) cf_12 (e_aload_n (k0 := 0) d_M_undo_38 rfl rfl) (by decide) tw_1417 d_M_undo_39) d_M_undo_42) (e_iload_n (k0 := 1) d_M_undo_43 rfl rfl) d_M_undo_44) d_M_undo_45) (as_i d_M_undo_46)) (s_goto (p1 := 50) (s_inc (k0 := 1) d_M_undo_47 rfl rfl (Nat.le_of_ble_eq_true rfl) rfl) d_M_undo_50 rfl))) rfl) (s_retZ (p1 := 54) (e_iconst d_M_undo_53 (by decide)) rfl d_M_undo_54)))))
/-! BlinkerCrossModel.power(II)I -/
abbrev y_M_power : MethodName := ⟨"BlinkerCrossModel", "power", "(II)I"⟩
abbrev Y_M_power : Yt := (prog_14_method_86_code, 4, "BlinkerCrossModel", 0, (some .int), "power")
theorem d_M_power_0 : decode prog_14_method_86_code 0 = .ok (.iconst 1, 1) := by decide +kernel
theorem d_M_power_1 : decode prog_14_method_86_code 1 = .ok (.istore_n 2, 1) := by decide +kernel
theorem d_M_power_2 : decode prog_14_method_86_code 2 = .ok (.iconst 0, 1) := by decide +kernel
theorem d_M_power_3 : decode prog_14_method_86_code 3 = .ok (.istore_n 3, 1) := by decide +kernel
theorem d_M_power_4 : decode prog_14_method_86_code 4 = .ok (.iload_n 3, 1) := by decide +kernel
theorem d_M_power_5 : decode prog_14_method_86_code 5 = .ok (.iload_n 1, 1) := by decide +kernel
theorem d_M_power_6 : decode prog_14_method_86_code 6 = .ok (.if_icmp .ge 13, 3) := by decide +kernel
theorem d_M_power_9 : decode prog_14_method_86_code 9 = .ok (.iload_n 2, 1) := by decide +kernel
theorem d_M_power_10 : decode prog_14_method_86_code 10 = .ok (.iload_n 0, 1) := by decide +kernel
theorem d_M_power_11 : decode prog_14_method_86_code 11 = .ok (.imul, 1) := by decide +kernel
theorem d_M_power_12 : decode prog_14_method_86_code 12 = .ok (.istore_n 2, 1) := by decide +kernel
theorem d_M_power_13 : decode prog_14_method_86_code 13 = .ok (.iinc 3 1, 3) := by decide +kernel
theorem d_M_power_16 : decode prog_14_method_86_code 16 = .ok (.goto (-12), 3) := by decide +kernel
theorem d_M_power_19 : decode prog_14_method_86_code 19 = .ok (.iload_n 2, 1) := by decide +kernel
theorem d_M_power_20 : decode prog_14_method_86_code 20 = .ok (.ireturn, 1) := by decide +kernel
noncomputable def Lc_M_power_1 : Xp Bool := o2 (fun x y => decide (x < y)) (vI 3) (vI 1)
noncomputable def Lb_M_power_1 : Sm := sSet 2 (asV Value.int (o2 (fun x y => x * y) (vI 2) (vI 0)))
noncomputable def Lu_M_power_1 : Sm := sInc 3 (ii 1)
noncomputable def F_M_power : Sm := sSeq (sDecl (asV Value.int (kI (ii 1)))) (sSeq (sBlk 3 (sSeq (sDecl (asV Value.int (kI (ii 0)))) (sWh (Lc_M_power_1) (Lb_M_power_1) Lu_M_power_1))) (sRet (asV Value.int (vI 2))))
theorem mf_M_power : Mf y_M_power prog_14_method_86_code 4 (some .int) 2 := ⟨tw_1882, tw_134, by decide +kernel⟩
noncomputable def D_M_power : Dn := runS [1, 1] F_M_power
theorem ok_M_power : MOK y_M_power prog_14_method_86_code 4 (some .int) 0 0 0 D_M_power := MOK.of (by decide) (by decide) (show SO Y_M_power [(0, 1), (1, 1)] [(0, 1), (1, 1), (2, 1)] 0 21 (([], 0), ([], 0)) F_M_power from
  (s_seq (sl1 := [(0, 1), (1, 1), (2, 1)]) (p1 := 2) (s_decl (p1 := 1) (e_iconst d_M_power_0 (by decide)) (t_istore_n d_M_power_1 rfl (by decide)) rfl) (s_seq (sl1 := [(0, 1), (1, 1), (2, 1)]) (p1 := 19) (s_blk (sl1 := [(0, 1), (1, 1), (2, 1), (3, 1)]) (s_seq (sl1 := [(0, 1), (1, 1), (2, 1), (3, 1)]) (p1 := 4) (s_decl (p1 := 3) (e_iconst d_M_power_2 (by decide)) (t_istore_n d_M_power_3 rfl (by decide)) rfl) (s_for (pt := 9) (pu := 13) (pf := 19) (pg := 0) (c_icmp_geF (p1 := 5) (p2 := 6) (tg := 19) (e_iload_n (k0 := 3) d_M_power_4 rfl rfl) (e_iload_n (k0 := 1) d_M_power_5 rfl rfl) d_M_power_6 rfl) (s_set (k0 := 2) (p1 := 12) (e_imul (p1 := 10) (p2 := 11) (e_iload_n (k0 := 2) d_M_power_9 rfl rfl) (e_iload_n (k0 := 0) d_M_power_10 rfl rfl) d_M_power_11) (t_istore_n d_M_power_12 rfl (by decide)) rfl rfl) (s_goto (p1 := 16) (s_inc (k0 := 3) d_M_power_13 rfl rfl (Nat.le_of_ble_eq_true rfl) rfl) d_M_power_16 rfl))) rfl) (s_ret (p1 := 20) (e_iload_n (k0 := 2) d_M_power_19 rfl rfl) rfl d_M_power_20))))
/-! BlinkerCrossModel.digitOf(III)I -/
abbrev y_M_digitOf : MethodName := ⟨"BlinkerCrossModel", "digitOf", "(III)I"⟩
abbrev Y_M_digitOf : Yt := (prog_14_method_87_code, 4, "BlinkerCrossModel", 1, (some .int), "digitOf")
theorem d_M_digitOf_0 : decode prog_14_method_87_code 0 = .ok (.iload_n 1, 1) := by decide +kernel
theorem d_M_digitOf_1 : decode prog_14_method_87_code 1 = .ok (.iload_n 2, 1) := by decide +kernel
theorem d_M_digitOf_2 : decode prog_14_method_87_code 2 = .ok (.aload_n 0, 1) := by decide +kernel
theorem d_M_digitOf_3 : decode prog_14_method_87_code 3 = .ok (.getfield 52, 3) := by decide +kernel
theorem d_M_digitOf_6 : decode prog_14_method_87_code 6 = .ok (.aload_n 0, 1) := by decide +kernel
theorem d_M_digitOf_7 : decode prog_14_method_87_code 7 = .ok (.getfield 242, 3) := by decide +kernel
theorem d_M_digitOf_10 : decode prog_14_method_87_code 10 = .ok (.iaload, 1) := by decide +kernel
theorem d_M_digitOf_11 : decode prog_14_method_87_code 11 = .ok (.iconst 1, 1) := by decide +kernel
theorem d_M_digitOf_12 : decode prog_14_method_87_code 12 = .ok (.isub, 1) := by decide +kernel
theorem d_M_digitOf_13 : decode prog_14_method_87_code 13 = .ok (.iload_n 3, 1) := by decide +kernel
theorem d_M_digitOf_14 : decode prog_14_method_87_code 14 = .ok (.isub, 1) := by decide +kernel
theorem d_M_digitOf_15 : decode prog_14_method_87_code 15 = .ok (.invokestatic 435, 3) := by decide +kernel
theorem d_M_digitOf_18 : decode prog_14_method_87_code 18 = .ok (.idiv, 1) := by decide +kernel
theorem d_M_digitOf_19 : decode prog_14_method_87_code 19 = .ok (.iload_n 2, 1) := by decide +kernel
theorem d_M_digitOf_20 : decode prog_14_method_87_code 20 = .ok (.irem, 1) := by decide +kernel
theorem d_M_digitOf_21 : decode prog_14_method_87_code 21 = .ok (.ireturn, 1) := by decide +kernel
noncomputable def F_M_digitOf : Sm := sRet (asV Value.int (oR (oD (vI 1) (cI (D_M_power) [asV Value.int (vI 2), asV Value.int (o2 (fun x y => x - y) (o2 (fun x y => x - y) (aI 0 (gR 12 25 (vR 0)) (gI 12 18 (vR 0))) (kI (ii 1))) (vI 3))])) (vI 2)))
theorem mf_M_digitOf : Mf y_M_digitOf prog_14_method_87_code 4 (some .int) 3 := ⟨tw_1886, tw_134, by decide +kernel⟩
noncomputable def D_M_digitOf : Dn := runS [1, 1, 1, 1] F_M_digitOf
theorem ok_M_digitOf : MOK y_M_digitOf prog_14_method_87_code 4 (some .int) 1 0 0 D_M_digitOf := MOK.of (by decide) (by decide) (show SO Y_M_digitOf [(0, 1), (1, 1), (2, 1), (3, 1)] [(0, 1), (1, 1), (2, 1), (3, 1)] 0 22 (([], 0), ([], 0)) F_M_digitOf from
  (s_ret (p1 := 21) (e_irem (p1 := 19) (p2 := 20) (e_idiv (p1 := 1) (p2 := 18) (e_iload_n (k0 := 1) d_M_digitOf_0 rfl rfl) (e_cI (p1 := 15) (a_cons (ι := Value.int) (k0 := 1) (p1 := 2) (fun _ => rfl) (e_iload_n (k0 := 2) d_M_digitOf_1 rfl rfl) (a_cons (ι := Value.int) (k0 := 1) (p1 := 15) (fun _ => rfl) (e_isub (p1 := 13) (p2 := 14) (e_isub (p1 := 11) (p2 := 12) (e_iald (p1 := 6) (p2 := 10) (e_gR (k0 := 25) (p1 := 3) cf_12 (e_aload_n (k0 := 0) d_M_digitOf_2 rfl rfl) (by decide) tw_1385 d_M_digitOf_3) (e_gI (k0 := 18) (p1 := 7) cf_12 (e_aload_n (k0 := 0) d_M_digitOf_6 rfl rfl) (by decide) tw_1378 d_M_digitOf_7) d_M_digitOf_10) (e_iconst d_M_digitOf_11 (by decide)) d_M_digitOf_12) (e_iload_n (k0 := 3) d_M_digitOf_13 rfl rfl) d_M_digitOf_14) a_nil)) (k_stat ok_M_power mf_M_power tw_1881 tw_1880 d_M_digitOf_15 (by decide) (by decide) (by decide))) d_M_digitOf_18) (e_iload_n (k0 := 2) d_M_digitOf_19 rfl rfl) d_M_digitOf_20) rfl d_M_digitOf_21))
/-! BlinkerCrossModel.sights()I -/
abbrev y_M_sights : MethodName := ⟨"BlinkerCrossModel", "sights", "()I"⟩
abbrev Y_M_sights : Yt := (prog_14_method_88_code, 1, "BlinkerCrossModel", 0, (some .int), "sights")
theorem d_M_sights_0 : decode prog_14_method_88_code 0 = .ok (.aload_n 0, 1) := by decide +kernel
theorem d_M_sights_1 : decode prog_14_method_88_code 1 = .ok (.getfield 46, 3) := by decide +kernel
theorem d_M_sights_4 : decode prog_14_method_88_code 4 = .ok (.aload_n 0, 1) := by decide +kernel
theorem d_M_sights_5 : decode prog_14_method_88_code 5 = .ok (.getfield 242, 3) := by decide +kernel
theorem d_M_sights_8 : decode prog_14_method_88_code 8 = .ok (.iaload, 1) := by decide +kernel
theorem d_M_sights_9 : decode prog_14_method_88_code 9 = .ok (.bipush 6, 2) := by decide +kernel
theorem d_M_sights_11 : decode prog_14_method_88_code 11 = .ok (.if_icmp .ge 15, 3) := by decide +kernel
theorem d_M_sights_14 : decode prog_14_method_88_code 14 = .ok (.aload_n 0, 1) := by decide +kernel
theorem d_M_sights_15 : decode prog_14_method_88_code 15 = .ok (.getfield 46, 3) := by decide +kernel
theorem d_M_sights_18 : decode prog_14_method_88_code 18 = .ok (.aload_n 0, 1) := by decide +kernel
theorem d_M_sights_19 : decode prog_14_method_88_code 19 = .ok (.getfield 242, 3) := by decide +kernel
theorem d_M_sights_22 : decode prog_14_method_88_code 22 = .ok (.iaload, 1) := by decide +kernel
theorem d_M_sights_23 : decode prog_14_method_88_code 23 = .ok (.goto 5, 3) := by decide +kernel
theorem d_M_sights_26 : decode prog_14_method_88_code 26 = .ok (.bipush 6, 2) := by decide +kernel
theorem d_M_sights_28 : decode prog_14_method_88_code 28 = .ok (.ireturn, 1) := by decide +kernel
noncomputable def F_M_sights : Sm := sRet (asV Value.int (iX (o2 (fun x y => decide (x < y)) (aI 0 (gR 12 23 (vR 0)) (gI 12 18 (vR 0))) (kI (ii 6))) (aI 0 (gR 12 23 (vR 0)) (gI 12 18 (vR 0))) (kI (ii 6))))
theorem mf_M_sights : Mf y_M_sights prog_14_method_88_code 1 (some .int) 0 := ⟨tw_1879, tw_134, by decide +kernel⟩
noncomputable def D_M_sights : Dn := runS [1] F_M_sights
theorem ok_M_sights : MOK y_M_sights prog_14_method_88_code 1 (some .int) 0 0 0 D_M_sights := MOK.of (by decide) (by decide) (show SO Y_M_sights [(0, 1)] [(0, 1)] 0 29 (([], 0), ([], 0)) F_M_sights from
  (s_ret (p1 := 28) (e_ite (pt := 14) (p1 := 23) (pf := 26) (c_icmp_geF (p1 := 9) (p2 := 11) (tg := 26) (e_iald (p1 := 4) (p2 := 8) (e_gR (k0 := 23) (p1 := 1) cf_12 (e_aload_n (k0 := 0) d_M_sights_0 rfl rfl) (by decide) tw_1383 d_M_sights_1) (e_gI (k0 := 18) (p1 := 5) cf_12 (e_aload_n (k0 := 0) d_M_sights_4 rfl rfl) (by decide) tw_1378 d_M_sights_5) d_M_sights_8) (e_bipush d_M_sights_9 (by decide)) d_M_sights_11 rfl) (e_iald (p1 := 18) (p2 := 22) (e_gR (k0 := 23) (p1 := 15) cf_12 (e_aload_n (k0 := 0) d_M_sights_14 rfl rfl) (by decide) tw_1383 d_M_sights_15) (e_gI (k0 := 18) (p1 := 19) cf_12 (e_aload_n (k0 := 0) d_M_sights_18 rfl rfl) (by decide) tw_1378 d_M_sights_19) d_M_sights_22) d_M_sights_23 rfl (e_bipush d_M_sights_26 (by decide))) rfl d_M_sights_28))
/-! BlinkerCrossModel.fillsPlan(I)V -/
abbrev y_M_fillsPlan : MethodName := ⟨"BlinkerCrossModel", "fillsPlan", "(I)V"⟩
abbrev Y_M_fillsPlan : Yt := (prog_14_method_89_code, 5, "BlinkerCrossModel", 5, none, "fillsPlan")
theorem d_M_fillsPlan_0 : decode prog_14_method_89_code 0 = .ok (.aload_n 0, 1) := by decide +kernel
theorem d_M_fillsPlan_1 : decode prog_14_method_89_code 1 = .ok (.invokevirtual 357, 3) := by decide +kernel
theorem d_M_fillsPlan_4 : decode prog_14_method_89_code 4 = .ok (.aload_n 0, 1) := by decide +kernel
theorem d_M_fillsPlan_5 : decode prog_14_method_89_code 5 = .ok (.iconst (-1), 1) := by decide +kernel
theorem d_M_fillsPlan_6 : decode prog_14_method_89_code 6 = .ok (.putfield 438, 3) := by decide +kernel
theorem d_M_fillsPlan_9 : decode prog_14_method_89_code 9 = .ok (.iconst 0, 1) := by decide +kernel
theorem d_M_fillsPlan_10 : decode prog_14_method_89_code 10 = .ok (.istore_n 2, 1) := by decide +kernel
theorem d_M_fillsPlan_11 : decode prog_14_method_89_code 11 = .ok (.iload_n 2, 1) := by decide +kernel
theorem d_M_fillsPlan_12 : decode prog_14_method_89_code 12 = .ok (.aload_n 0, 1) := by decide +kernel
theorem d_M_fillsPlan_13 : decode prog_14_method_89_code 13 = .ok (.invokevirtual 441, 3) := by decide +kernel
theorem d_M_fillsPlan_16 : decode prog_14_method_89_code 16 = .ok (.aload_n 0, 1) := by decide +kernel
theorem d_M_fillsPlan_17 : decode prog_14_method_89_code 17 = .ok (.getfield 52, 3) := by decide +kernel
theorem d_M_fillsPlan_20 : decode prog_14_method_89_code 20 = .ok (.aload_n 0, 1) := by decide +kernel
theorem d_M_fillsPlan_21 : decode prog_14_method_89_code 21 = .ok (.getfield 242, 3) := by decide +kernel
theorem d_M_fillsPlan_24 : decode prog_14_method_89_code 24 = .ok (.iaload, 1) := by decide +kernel
theorem d_M_fillsPlan_25 : decode prog_14_method_89_code 25 = .ok (.invokestatic 435, 3) := by decide +kernel
theorem d_M_fillsPlan_28 : decode prog_14_method_89_code 28 = .ok (.if_icmp .ge 132, 3) := by decide +kernel
theorem d_M_fillsPlan_31 : decode prog_14_method_89_code 31 = .ok (.iconst 0, 1) := by decide +kernel
theorem d_M_fillsPlan_32 : decode prog_14_method_89_code 32 = .ok (.istore_n 3, 1) := by decide +kernel
theorem d_M_fillsPlan_33 : decode prog_14_method_89_code 33 = .ok (.iload_n 3, 1) := by decide +kernel
theorem d_M_fillsPlan_34 : decode prog_14_method_89_code 34 = .ok (.aload_n 0, 1) := by decide +kernel
theorem d_M_fillsPlan_35 : decode prog_14_method_89_code 35 = .ok (.getfield 52, 3) := by decide +kernel
theorem d_M_fillsPlan_38 : decode prog_14_method_89_code 38 = .ok (.aload_n 0, 1) := by decide +kernel
theorem d_M_fillsPlan_39 : decode prog_14_method_89_code 39 = .ok (.getfield 242, 3) := by decide +kernel
theorem d_M_fillsPlan_42 : decode prog_14_method_89_code 42 = .ok (.iaload, 1) := by decide +kernel
theorem d_M_fillsPlan_43 : decode prog_14_method_89_code 43 = .ok (.if_icmp .ge 29, 3) := by decide +kernel
theorem d_M_fillsPlan_46 : decode prog_14_method_89_code 46 = .ok (.aload_n 0, 1) := by decide +kernel
theorem d_M_fillsPlan_47 : decode prog_14_method_89_code 47 = .ok (.getfield 110, 3) := by decide +kernel
theorem d_M_fillsPlan_50 : decode prog_14_method_89_code 50 = .ok (.iconst 5, 1) := by decide +kernel
theorem d_M_fillsPlan_51 : decode prog_14_method_89_code 51 = .ok (.iload_n 3, 1) := by decide +kernel
theorem d_M_fillsPlan_52 : decode prog_14_method_89_code 52 = .ok (.iadd, 1) := by decide +kernel
theorem d_M_fillsPlan_53 : decode prog_14_method_89_code 53 = .ok (.iconst 1, 1) := by decide +kernel
theorem d_M_fillsPlan_54 : decode prog_14_method_89_code 54 = .ok (.aload_n 0, 1) := by decide +kernel
theorem d_M_fillsPlan_55 : decode prog_14_method_89_code 55 = .ok (.iload_n 2, 1) := by decide +kernel
theorem d_M_fillsPlan_56 : decode prog_14_method_89_code 56 = .ok (.aload_n 0, 1) := by decide +kernel
theorem d_M_fillsPlan_57 : decode prog_14_method_89_code 57 = .ok (.invokevirtual 441, 3) := by decide +kernel
theorem d_M_fillsPlan_60 : decode prog_14_method_89_code 60 = .ok (.iload_n 3, 1) := by decide +kernel
theorem d_M_fillsPlan_61 : decode prog_14_method_89_code 61 = .ok (.invokevirtual 444, 3) := by decide +kernel
theorem d_M_fillsPlan_64 : decode prog_14_method_89_code 64 = .ok (.iadd, 1) := by decide +kernel
theorem d_M_fillsPlan_65 : decode prog_14_method_89_code 65 = .ok (.iastore, 1) := by decide +kernel
theorem d_M_fillsPlan_66 : decode prog_14_method_89_code 66 = .ok (.iinc 3 1, 3) := by decide +kernel
theorem d_M_fillsPlan_69 : decode prog_14_method_89_code 69 = .ok (.goto (-36), 3) := by decide +kernel
theorem d_M_fillsPlan_72 : decode prog_14_method_89_code 72 = .ok (.aload_n 0, 1) := by decide +kernel
theorem d_M_fillsPlan_73 : decode prog_14_method_89_code 73 = .ok (.invokevirtual 354, 3) := by decide +kernel
theorem d_M_fillsPlan_76 : decode prog_14_method_89_code 76 = .ok (.aload_n 0, 1) := by decide +kernel
theorem d_M_fillsPlan_77 : decode prog_14_method_89_code 77 = .ok (.invokevirtual 447, 3) := by decide +kernel
theorem d_M_fillsPlan_80 : decode prog_14_method_89_code 80 = .ok (.istore_n 3, 1) := by decide +kernel
theorem d_M_fillsPlan_81 : decode prog_14_method_89_code 81 = .ok (.aload_n 0, 1) := by decide +kernel
theorem d_M_fillsPlan_82 : decode prog_14_method_89_code 82 = .ok (.getfield 438, 3) := by decide +kernel
theorem d_M_fillsPlan_85 : decode prog_14_method_89_code 85 = .ok (.ifCond .lt 14, 3) := by decide +kernel
theorem d_M_fillsPlan_88 : decode prog_14_method_89_code 88 = .ok (.iload_n 3, 1) := by decide +kernel
theorem d_M_fillsPlan_89 : decode prog_14_method_89_code 89 = .ok (.aload_n 0, 1) := by decide +kernel
theorem d_M_fillsPlan_90 : decode prog_14_method_89_code 90 = .ok (.getfield 450, 3) := by decide +kernel
theorem d_M_fillsPlan_93 : decode prog_14_method_89_code 93 = .ok (.if_icmp .le 6, 3) := by decide +kernel
theorem d_M_fillsPlan_96 : decode prog_14_method_89_code 96 = .ok (.goto 58, 3) := by decide +kernel
theorem d_M_fillsPlan_99 : decode prog_14_method_89_code 99 = .ok (.aload_n 0, 1) := by decide +kernel
theorem d_M_fillsPlan_100 : decode prog_14_method_89_code 100 = .ok (.invokevirtual 453, 3) := by decide +kernel
theorem d_M_fillsPlan_103 : decode prog_14_method_89_code 103 = .ok (.istore 4, 2) := by decide +kernel
theorem d_M_fillsPlan_105 : decode prog_14_method_89_code 105 = .ok (.iload 4, 2) := by decide +kernel
theorem d_M_fillsPlan_107 : decode prog_14_method_89_code 107 = .ok (.iload_n 1, 1) := by decide +kernel
theorem d_M_fillsPlan_108 : decode prog_14_method_89_code 108 = .ok (.if_icmp .gt 46, 3) := by decide +kernel
theorem d_M_fillsPlan_111 : decode prog_14_method_89_code 111 = .ok (.aload_n 0, 1) := by decide +kernel
theorem d_M_fillsPlan_112 : decode prog_14_method_89_code 112 = .ok (.getfield 438, 3) := by decide +kernel
theorem d_M_fillsPlan_115 : decode prog_14_method_89_code 115 = .ok (.ifCond .lt 23, 3) := by decide +kernel
theorem d_M_fillsPlan_118 : decode prog_14_method_89_code 118 = .ok (.iload_n 3, 1) := by decide +kernel
theorem d_M_fillsPlan_119 : decode prog_14_method_89_code 119 = .ok (.aload_n 0, 1) := by decide +kernel
theorem d_M_fillsPlan_120 : decode prog_14_method_89_code 120 = .ok (.getfield 450, 3) := by decide +kernel
theorem d_M_fillsPlan_123 : decode prog_14_method_89_code 123 = .ok (.if_icmp .ne 15, 3) := by decide +kernel
theorem d_M_fillsPlan_126 : decode prog_14_method_89_code 126 = .ok (.iload 4, 2) := by decide +kernel
theorem d_M_fillsPlan_128 : decode prog_14_method_89_code 128 = .ok (.aload_n 0, 1) := by decide +kernel
theorem d_M_fillsPlan_129 : decode prog_14_method_89_code 129 = .ok (.getfield 456, 3) := by decide +kernel
theorem d_M_fillsPlan_132 : decode prog_14_method_89_code 132 = .ok (.if_icmp .lt 6, 3) := by decide +kernel
theorem d_M_fillsPlan_135 : decode prog_14_method_89_code 135 = .ok (.goto 19, 3) := by decide +kernel
theorem d_M_fillsPlan_138 : decode prog_14_method_89_code 138 = .ok (.aload_n 0, 1) := by decide +kernel
theorem d_M_fillsPlan_139 : decode prog_14_method_89_code 139 = .ok (.iload_n 2, 1) := by decide +kernel
theorem d_M_fillsPlan_140 : decode prog_14_method_89_code 140 = .ok (.putfield 438, 3) := by decide +kernel
theorem d_M_fillsPlan_143 : decode prog_14_method_89_code 143 = .ok (.aload_n 0, 1) := by decide +kernel
theorem d_M_fillsPlan_144 : decode prog_14_method_89_code 144 = .ok (.iload_n 3, 1) := by decide +kernel
theorem d_M_fillsPlan_145 : decode prog_14_method_89_code 145 = .ok (.putfield 450, 3) := by decide +kernel
theorem d_M_fillsPlan_148 : decode prog_14_method_89_code 148 = .ok (.aload_n 0, 1) := by decide +kernel
theorem d_M_fillsPlan_149 : decode prog_14_method_89_code 149 = .ok (.iload 4, 2) := by decide +kernel
theorem d_M_fillsPlan_151 : decode prog_14_method_89_code 151 = .ok (.putfield 456, 3) := by decide +kernel
theorem d_M_fillsPlan_154 : decode prog_14_method_89_code 154 = .ok (.iinc 2 1, 3) := by decide +kernel
theorem d_M_fillsPlan_157 : decode prog_14_method_89_code 157 = .ok (.goto (-146), 3) := by decide +kernel
theorem d_M_fillsPlan_160 : decode prog_14_method_89_code 160 = .ok (.return_, 1) := by decide +kernel
noncomputable def Lc_M_fillsPlan_1 : Xp Bool := o2 (fun x y => decide (x < y)) (vI 3) (aI 0 (gR 12 25 (vR 0)) (gI 12 18 (vR 0)))
noncomputable def Lb_M_fillsPlan_1 : Sm := sAst 0 (gR 12 48 (vR 0)) (o2 (fun x y => x + y) (kI (ii 5)) (vI 3)) (o2 (fun x y => x + y) (kI (ii 1)) (cI (mV 12 D_M_digitOf) [asV Value.ref (vR 0), asV Value.int (vI 2), asV Value.int (cI (mV 12 D_M_sights) [asV Value.ref (vR 0)]), asV Value.int (vI 3)]))
noncomputable def Lu_M_fillsPlan_1 : Sm := sInc 3 (ii 1)
noncomputable def Lc_M_fillsPlan_2 : Xp Bool := o2 (fun x y => decide (x < y)) (vI 2) (cI (D_M_power) [asV Value.int (cI (mV 12 D_M_sights) [asV Value.ref (vR 0)]), asV Value.int (aI 0 (gR 12 25 (vR 0)) (gI 12 18 (vR 0)))])
noncomputable def Lb_M_fillsPlan_2 : Sm := sBlk 3 (sSeq (sBlk 3 (sSeq (sDecl (asV Value.int (kI (ii 0)))) (sWh (Lc_M_fillsPlan_1) (Lb_M_fillsPlan_1) Lu_M_fillsPlan_1))) (sSeq (sCall (mV 12 D_M_fillsChoices) [asV Value.ref (vR 0)]) (sSeq (sDecl (asV Value.int (cI (mV 12 D_M_missedAll) [asV Value.ref (vR 0)]))) (sSeq (sIf (cAnd (o1 (fun x => decide (x ≥ 0)) (gI 12 61 (vR 0))) (o2 (fun x y => decide (x > y)) (vI 3) (gI 12 59 (vR 0)))) (sCnt 3) (sSkip)) (sSeq (sDecl (asV Value.int (cI (mV 12 D_M_standsAll) [asV Value.ref (vR 0)]))) (sSeq (sIf (cOr (o2 (fun x y => decide (x > y)) (vI 4) (vI 1)) (cAnd (cAnd (o1 (fun x => decide (x ≥ 0)) (gI 12 61 (vR 0))) (o2 (fun x y => decide (x = y)) (vI 3) (gI 12 59 (vR 0)))) (o2 (fun x y => decide (x ≥ y)) (vI 4) (gI 12 60 (vR 0))))) (sCnt 3) (sSkip)) (sSeq (sPut 12 61 (vR 0) (asV Value.int (vI 2))) (sSeq (sPut 12 59 (vR 0) (asV Value.int (vI 3))) (sPut 12 60 (vR 0) (asV Value.int (vI 4)))))))))))
noncomputable def Lu_M_fillsPlan_2 : Sm := sInc 2 (ii 1)
noncomputable def F_M_fillsPlan : Sm := sSeq (sCall (mV 12 D_M_copies) [asV Value.ref (vR 0)]) (sSeq (sPut 12 61 (vR 0) (asV Value.int (kI (ii (-1))))) (sSeq (sBlk 2 (sSeq (sDecl (asV Value.int (kI (ii 0)))) (sWh (Lc_M_fillsPlan_2) (Lb_M_fillsPlan_2) Lu_M_fillsPlan_2))) (sRetV)))
theorem mf_M_fillsPlan : Mf y_M_fillsPlan prog_14_method_89_code 5 none 1 := ⟨tw_1875, tw_134, by decide +kernel⟩
noncomputable def D_M_fillsPlan : Dn := runS [1, 1] F_M_fillsPlan
theorem ok_M_fillsPlan : MOK y_M_fillsPlan prog_14_method_89_code 5 none 5 0 0 D_M_fillsPlan := MOK.of (by decide) (by decide) (show SO Y_M_fillsPlan [(0, 1), (1, 1)] [(0, 1), (1, 1)] 0 161 (([], 0), ([], 0)) F_M_fillsPlan from
  (s_seq (sl1 := [(0, 1), (1, 1)]) (p1 := 4) (s_call (p1 := 1) (a_cons (ι := Value.ref) (k0 := 1) (p1 := 1) (fun _ => rfl) (e_aload_n (k0 := 0) d_M_fillsPlan_0 rfl rfl) a_nil) (k_virt ok_M_copies mf_M_copies ⟨tw_1707, tw_73⟩ rfl tw_1705 d_M_fillsPlan_1 (by decide) (by decide) (by decide))) (s_seq (sl1 := [(0, 1), (1, 1)]) (p1 := 9) (s_put (k0 := 61) (p1 := 5) (p2 := 6) cf_12 (e_aload_n (k0 := 0) d_M_fillsPlan_4 rfl rfl) (e_iconst d_M_fillsPlan_5 (by decide)) (by decide) fk_i tw_1421 (Or.inl rfl) d_M_fillsPlan_6) (s_seq (sl1 := [(0, 1), (1, 1)]) (p1 := 160) (s_blk (sl1 := [(0, 1), (1, 1), (2, 1)]) (s_seq (sl1 := [(0, 1), (1, 1), (2, 1)]) (p1 := 11) (s_decl (p1 := 10) (e_iconst d_M_fillsPlan_9 (by decide)) (t_istore_n d_M_fillsPlan_10 rfl (by decide)) rfl) (s_for (pt := 31) (pu := 154) (pf := 160) (pg := 0) (c_icmp_geF (p1 := 12) (p2 := 28) (tg := 160) (e_iload_n (k0 := 2) d_M_fillsPlan_11 rfl rfl) (e_cI (p1 := 25) (a_cons (ι := Value.int) (k0 := 1) (p1 := 16) (fun _ => rfl) (e_cI (p1 := 13) (a_cons (ι := Value.ref) (k0 := 1) (p1 := 13) (fun _ => rfl) (e_aload_n (k0 := 0) d_M_fillsPlan_12 rfl rfl) a_nil) (k_virt ok_M_sights mf_M_sights ⟨tw_1878, tw_103⟩ rfl tw_1876 d_M_fillsPlan_13 (by decide) (by decide) (by decide))) (a_cons (ι := Value.int) (k0 := 1) (p1 := 25) (fun _ => rfl) (e_iald (p1 := 20) (p2 := 24) (e_gR (k0 := 25) (p1 := 17) cf_12 (e_aload_n (k0 := 0) d_M_fillsPlan_16 rfl rfl) (by decide) tw_1385 d_M_fillsPlan_17) (e_gI (k0 := 18) (p1 := 21) cf_12 (e_aload_n (k0 := 0) d_M_fillsPlan_20 rfl rfl) (by decide) tw_1378 d_M_fillsPlan_21) d_M_fillsPlan_24) a_nil)) (k_stat ok_M_power mf_M_power tw_1881 tw_1880 d_M_fillsPlan_25 (by decide) (by decide) (by decide))) d_M_fillsPlan_28 rfl) (s_blk (sl1 := [(0, 1), (1, 1), (2, 1), (3, 1), (4, 1)]) (s_seq (sl1 := [(0, 1), (1, 1), (2, 1)]) (p1 := 72) (s_blk (sl1 := [(0, 1), (1, 1), (2, 1), (3, 1)]) (s_seq (sl1 := [(0, 1), (1, 1), (2, 1), (3, 1)]) (p1 := 33) (s_decl (p1 := 32) (e_iconst d_M_fillsPlan_31 (by decide)) (t_istore_n d_M_fillsPlan_32 rfl (by decide)) rfl) (s_for (pt := 46) (pu := 66) (pf := 72) (pg := 0) (c_icmp_geF (p1 := 34) (p2 := 43) (tg := 72) (e_iload_n (k0 := 3) d_M_fillsPlan_33 rfl rfl) (e_iald (p1 := 38) (p2 := 42) (e_gR (k0 := 25) (p1 := 35) cf_12 (e_aload_n (k0 := 0) d_M_fillsPlan_34 rfl rfl) (by decide) tw_1385 d_M_fillsPlan_35) (e_gI (k0 := 18) (p1 := 39) cf_12 (e_aload_n (k0 := 0) d_M_fillsPlan_38 rfl rfl) (by decide) tw_1378 d_M_fillsPlan_39) d_M_fillsPlan_42) d_M_fillsPlan_43 rfl) (s_ast (p1 := 50) (p2 := 53) (p3 := 65) (e_gR (k0 := 48) (p1 := 47) cf_12 (e_aload_n (k0 := 0) d_M_fillsPlan_46 rfl rfl) (by decide) tw_1408 d_M_fillsPlan_47) (e_iadd (p1 := 51) (p2 := 52) (e_iconst d_M_fillsPlan_50 (by decide)) (e_iload_n (k0 := 3) d_M_fillsPlan_51 rfl rfl) d_M_fillsPlan_52) (e_iadd (p1 := 54) (p2 := 64) (e_iconst d_M_fillsPlan_53 (by decide)) (e_cI (p1 := 61) (a_cons (ι := Value.ref) (k0 := 1) (p1 := 55) (fun _ => rfl) (e_aload_n (k0 := 0) d_M_fillsPlan_54 rfl rfl) (a_cons (ι := Value.int) (k0 := 1) (p1 := 56) (fun _ => rfl) (e_iload_n (k0 := 2) d_M_fillsPlan_55 rfl rfl) (a_cons (ι := Value.int) (k0 := 1) (p1 := 60) (fun _ => rfl) (e_cI (p1 := 57) (a_cons (ι := Value.ref) (k0 := 1) (p1 := 57) (fun _ => rfl) (e_aload_n (k0 := 0) d_M_fillsPlan_56 rfl rfl) a_nil) (k_virt ok_M_sights mf_M_sights ⟨tw_1878, tw_103⟩ rfl tw_1876 d_M_fillsPlan_57 (by decide) (by decide) (by decide))) (a_cons (ι := Value.int) (k0 := 1) (p1 := 61) (fun _ => rfl) (e_iload_n (k0 := 3) d_M_fillsPlan_60 rfl rfl) a_nil)))) (k_virt ok_M_digitOf mf_M_digitOf ⟨tw_1885, tw_104⟩ rfl tw_1883 d_M_fillsPlan_61 (by decide) (by decide) (by decide))) d_M_fillsPlan_64) (as_i d_M_fillsPlan_65)) (s_goto (p1 := 69) (s_inc (k0 := 3) d_M_fillsPlan_66 rfl rfl (Nat.le_of_ble_eq_true rfl) rfl) d_M_fillsPlan_69 rfl))) rfl) (s_seq (sl1 := [(0, 1), (1, 1), (2, 1)]) (p1 := 76) (s_call (p1 := 73) (a_cons (ι := Value.ref) (k0 := 1) (p1 := 73) (fun _ => rfl) (e_aload_n (k0 := 0) d_M_fillsPlan_72 rfl rfl) a_nil) (k_virt ok_M_fillsChoices mf_M_fillsChoices ⟨tw_1711, tw_74⟩ rfl tw_1709 d_M_fillsPlan_73 (by decide) (by decide) (by decide))) (s_seq (sl1 := [(0, 1), (1, 1), (2, 1), (3, 1)]) (p1 := 81) (s_decl (p1 := 80) (e_cI (p1 := 77) (a_cons (ι := Value.ref) (k0 := 1) (p1 := 77) (fun _ => rfl) (e_aload_n (k0 := 0) d_M_fillsPlan_76 rfl rfl) a_nil) (k_virt ok_M_missedAll mf_M_missedAll ⟨tw_1889, tw_105⟩ rfl tw_1887 d_M_fillsPlan_77 (by decide) (by decide) (by decide))) (t_istore_n d_M_fillsPlan_80 rfl (by decide)) rfl) (s_seq (sl1 := [(0, 1), (1, 1), (2, 1), (3, 1)]) (p1 := 99) (s_if (pt := 96) (pf := 99) (c_and (p1 := 88) (c_if_ltF (p1 := 85) (tg := 99) (e_gI (k0 := 61) (p1 := 82) cf_12 (e_aload_n (k0 := 0) d_M_fillsPlan_81 rfl rfl) (by decide) tw_1421 d_M_fillsPlan_82) d_M_fillsPlan_85 rfl) (c_icmp_leF (p1 := 89) (p2 := 93) (tg := 99) (e_iload_n (k0 := 3) d_M_fillsPlan_88 rfl rfl) (e_gI (k0 := 59) (p1 := 90) cf_12 (e_aload_n (k0 := 0) d_M_fillsPlan_89 rfl rfl) (by decide) tw_1419 d_M_fillsPlan_90) d_M_fillsPlan_93 rfl)) (s_ahead (p2 := 154) d_M_fillsPlan_96 rfl (s_cnt rfl)) s_skip) (s_seq (sl1 := [(0, 1), (1, 1), (2, 1), (3, 1), (4, 1)]) (p1 := 105) (s_decl (p1 := 103) (e_cI (p1 := 100) (a_cons (ι := Value.ref) (k0 := 1) (p1 := 100) (fun _ => rfl) (e_aload_n (k0 := 0) d_M_fillsPlan_99 rfl rfl) a_nil) (k_virt ok_M_standsAll mf_M_standsAll ⟨tw_1893, tw_106⟩ rfl tw_1891 d_M_fillsPlan_100 (by decide) (by decide) (by decide))) (t_istore d_M_fillsPlan_103 (by decide)) rfl) (s_seq (sl1 := [(0, 1), (1, 1), (2, 1), (3, 1), (4, 1)]) (p1 := 138) (s_if (pt := 154) (pf := 138) (c_or (p1 := 111) (c_icmp_gtT (p1 := 107) (p2 := 108) (tg := 154) (e_iload (k0 := 4) d_M_fillsPlan_105 rfl) (e_iload_n (k0 := 1) d_M_fillsPlan_107 rfl rfl) d_M_fillsPlan_108 rfl) (c_and (p1 := 126) (c_and (p1 := 118) (c_if_ltF (p1 := 115) (tg := 138) (e_gI (k0 := 61) (p1 := 112) cf_12 (e_aload_n (k0 := 0) d_M_fillsPlan_111 rfl rfl) (by decide) tw_1421 d_M_fillsPlan_112) d_M_fillsPlan_115 rfl) (c_icmp_neF (p1 := 119) (p2 := 123) (tg := 138) (e_iload_n (k0 := 3) d_M_fillsPlan_118 rfl rfl) (e_gI (k0 := 59) (p1 := 120) cf_12 (e_aload_n (k0 := 0) d_M_fillsPlan_119 rfl rfl) (by decide) tw_1419 d_M_fillsPlan_120) d_M_fillsPlan_123 rfl)) (c_gotoT (p1 := 135) (c_icmp_ltF (p1 := 128) (p2 := 132) (tg := 138) (e_iload (k0 := 4) d_M_fillsPlan_126 rfl) (e_gI (k0 := 60) (p1 := 129) cf_12 (e_aload_n (k0 := 0) d_M_fillsPlan_128 rfl rfl) (by decide) tw_1420 d_M_fillsPlan_129) d_M_fillsPlan_132 rfl) d_M_fillsPlan_135 rfl))) (s_cnt rfl) s_skip) (s_seq (sl1 := [(0, 1), (1, 1), (2, 1), (3, 1), (4, 1)]) (p1 := 143) (s_put (k0 := 61) (p1 := 139) (p2 := 140) cf_12 (e_aload_n (k0 := 0) d_M_fillsPlan_138 rfl rfl) (e_iload_n (k0 := 2) d_M_fillsPlan_139 rfl rfl) (by decide) fk_i tw_1421 (Or.inl rfl) d_M_fillsPlan_140) (s_seq (sl1 := [(0, 1), (1, 1), (2, 1), (3, 1), (4, 1)]) (p1 := 148) (s_put (k0 := 59) (p1 := 144) (p2 := 145) cf_12 (e_aload_n (k0 := 0) d_M_fillsPlan_143 rfl rfl) (e_iload_n (k0 := 3) d_M_fillsPlan_144 rfl rfl) (by decide) fk_i tw_1419 (Or.inl rfl) d_M_fillsPlan_145) (s_put (k0 := 60) (p1 := 149) (p2 := 151) cf_12 (e_aload_n (k0 := 0) d_M_fillsPlan_148 rfl rfl) (e_iload (k0 := 4) d_M_fillsPlan_149 rfl) (by decide) fk_i tw_1420 (Or.inl rfl) d_M_fillsPlan_151))))))))) rfl) (s_goto (p1 := 157) (s_inc (k0 := 2) d_M_fillsPlan_154 rfl rfl (Nat.le_of_ble_eq_true rfl) rfl) d_M_fillsPlan_157 rfl))) rfl) (s_retV rfl d_M_fillsPlan_160)))))
/-! BlinkerCrossModel.plan(II)I -/
abbrev y_M_plan : MethodName := ⟨"BlinkerCrossModel", "plan", "(II)I"⟩
abbrev Y_M_plan : Yt := (prog_14_method_90_code, 3, "BlinkerCrossModel", 6, (some .int), "plan")
theorem d_M_plan_0 : decode prog_14_method_90_code 0 = .ok (.iload_n 1, 1) := by decide +kernel
theorem d_M_plan_1 : decode prog_14_method_90_code 1 = .ok (.iconst 0, 1) := by decide +kernel
theorem d_M_plan_2 : decode prog_14_method_90_code 2 = .ok (.sipush 999, 3) := by decide +kernel
theorem d_M_plan_5 : decode prog_14_method_90_code 5 = .ok (.invokestatic 319, 3) := by decide +kernel
theorem d_M_plan_8 : decode prog_14_method_90_code 8 = .ok (.ifCond .eq 21, 3) := by decide +kernel
theorem d_M_plan_11 : decode prog_14_method_90_code 11 = .ok (.iload_n 2, 1) := by decide +kernel
theorem d_M_plan_12 : decode prog_14_method_90_code 12 = .ok (.bipush (-2), 2) := by decide +kernel
theorem d_M_plan_14 : decode prog_14_method_90_code 14 = .ok (.if_icmp .lt 15, 3) := by decide +kernel
theorem d_M_plan_17 : decode prog_14_method_90_code 17 = .ok (.iload_n 2, 1) := by decide +kernel
theorem d_M_plan_18 : decode prog_14_method_90_code 18 = .ok (.ifCond .lt 13, 3) := by decide +kernel
theorem d_M_plan_21 : decode prog_14_method_90_code 21 = .ok (.aload_n 0, 1) := by decide +kernel
theorem d_M_plan_22 : decode prog_14_method_90_code 22 = .ok (.iload_n 2, 1) := by decide +kernel
theorem d_M_plan_23 : decode prog_14_method_90_code 23 = .ok (.invokevirtual 345, 3) := by decide +kernel
theorem d_M_plan_26 : decode prog_14_method_90_code 26 = .ok (.ifCond .ne 5, 3) := by decide +kernel
theorem d_M_plan_29 : decode prog_14_method_90_code 29 = .ok (.iconst (-1), 1) := by decide +kernel
theorem d_M_plan_30 : decode prog_14_method_90_code 30 = .ok (.ireturn, 1) := by decide +kernel
theorem d_M_plan_31 : decode prog_14_method_90_code 31 = .ok (.aload_n 0, 1) := by decide +kernel
theorem d_M_plan_32 : decode prog_14_method_90_code 32 = .ok (.iload_n 1, 1) := by decide +kernel
theorem d_M_plan_33 : decode prog_14_method_90_code 33 = .ok (.invokevirtual 459, 3) := by decide +kernel
theorem d_M_plan_36 : decode prog_14_method_90_code 36 = .ok (.aload_n 0, 1) := by decide +kernel
theorem d_M_plan_37 : decode prog_14_method_90_code 37 = .ok (.getfield 438, 3) := by decide +kernel
theorem d_M_plan_40 : decode prog_14_method_90_code 40 = .ok (.ifCond .ge 6, 3) := by decide +kernel
theorem d_M_plan_43 : decode prog_14_method_90_code 43 = .ok (.bipush (-3), 2) := by decide +kernel
theorem d_M_plan_45 : decode prog_14_method_90_code 45 = .ok (.ireturn, 1) := by decide +kernel
theorem d_M_plan_46 : decode prog_14_method_90_code 46 = .ok (.iload_n 2, 1) := by decide +kernel
theorem d_M_plan_47 : decode prog_14_method_90_code 47 = .ok (.iconst (-1), 1) := by decide +kernel
theorem d_M_plan_48 : decode prog_14_method_90_code 48 = .ok (.if_icmp .ne 10, 3) := by decide +kernel
theorem d_M_plan_51 : decode prog_14_method_90_code 51 = .ok (.aload_n 0, 1) := by decide +kernel
theorem d_M_plan_52 : decode prog_14_method_90_code 52 = .ok (.getfield 450, 3) := by decide +kernel
theorem d_M_plan_55 : decode prog_14_method_90_code 55 = .ok (.goto 31, 3) := by decide +kernel
theorem d_M_plan_58 : decode prog_14_method_90_code 58 = .ok (.iload_n 2, 1) := by decide +kernel
theorem d_M_plan_59 : decode prog_14_method_90_code 59 = .ok (.bipush (-2), 2) := by decide +kernel
theorem d_M_plan_61 : decode prog_14_method_90_code 61 = .ok (.if_icmp .ne 10, 3) := by decide +kernel
theorem d_M_plan_64 : decode prog_14_method_90_code 64 = .ok (.aload_n 0, 1) := by decide +kernel
theorem d_M_plan_65 : decode prog_14_method_90_code 65 = .ok (.getfield 456, 3) := by decide +kernel
theorem d_M_plan_68 : decode prog_14_method_90_code 68 = .ok (.goto 18, 3) := by decide +kernel
theorem d_M_plan_71 : decode prog_14_method_90_code 71 = .ok (.iconst 1, 1) := by decide +kernel
theorem d_M_plan_72 : decode prog_14_method_90_code 72 = .ok (.aload_n 0, 1) := by decide +kernel
theorem d_M_plan_73 : decode prog_14_method_90_code 73 = .ok (.aload_n 0, 1) := by decide +kernel
theorem d_M_plan_74 : decode prog_14_method_90_code 74 = .ok (.getfield 438, 3) := by decide +kernel
theorem d_M_plan_77 : decode prog_14_method_90_code 77 = .ok (.aload_n 0, 1) := by decide +kernel
theorem d_M_plan_78 : decode prog_14_method_90_code 78 = .ok (.invokevirtual 441, 3) := by decide +kernel
theorem d_M_plan_81 : decode prog_14_method_90_code 81 = .ok (.iload_n 2, 1) := by decide +kernel
theorem d_M_plan_82 : decode prog_14_method_90_code 82 = .ok (.invokevirtual 444, 3) := by decide +kernel
theorem d_M_plan_85 : decode prog_14_method_90_code 85 = .ok (.iadd, 1) := by decide +kernel
theorem d_M_plan_86 : decode prog_14_method_90_code 86 = .ok (.ireturn, 1) := by decide +kernel
noncomputable def F_M_plan : Sm := sSeq (sIf (cOr (cOr (cNot (o1 (fun x => decide (x ≠ 0)) (cI (D_M_in) [asV Value.int (vI 1), asV Value.int (kI (ii 0)), asV Value.int (kI (ii 999))]))) (o2 (fun x y => decide (x < y)) (vI 2) (kI (ii (-2))))) (cAnd (o1 (fun x => decide (x ≥ 0)) (vI 2)) (cNot (o1 (fun x => decide (x ≠ 0)) (cI (mV 12 D_M_isGoer) [asV Value.ref (vR 0), asV Value.int (vI 2)]))))) (sRet (asV Value.int (kI (ii (-1))))) (sSkip)) (sSeq (sCall (mV 12 D_M_fillsPlan) [asV Value.ref (vR 0), asV Value.int (vI 1)]) (sSeq (sIf (o1 (fun x => decide (x < 0)) (gI 12 61 (vR 0))) (sRet (asV Value.int (kI (ii (-3))))) (sSkip)) (sRet (asV Value.int (iX (o2 (fun x y => decide (x = y)) (vI 2) (kI (ii (-1)))) (gI 12 59 (vR 0)) (iX (o2 (fun x y => decide (x = y)) (vI 2) (kI (ii (-2)))) (gI 12 60 (vR 0)) (o2 (fun x y => x + y) (kI (ii 1)) (cI (mV 12 D_M_digitOf) [asV Value.ref (vR 0), asV Value.int (gI 12 61 (vR 0)), asV Value.int (cI (mV 12 D_M_sights) [asV Value.ref (vR 0)]), asV Value.int (vI 2)]))))))))
theorem mf_M_plan : Mf y_M_plan prog_14_method_90_code 3 (some .int) 2 := ⟨tw_1871, tw_134, by decide +kernel⟩
noncomputable def D_M_plan : Dn := runS [1, 1, 1] F_M_plan
theorem ok_M_plan : MOK y_M_plan prog_14_method_90_code 3 (some .int) 6 0 0 D_M_plan := MOK.of (by decide) (by decide) (show SO Y_M_plan [(0, 1), (1, 1), (2, 1)] [(0, 1), (1, 1), (2, 1)] 0 87 (([], 0), ([], 0)) F_M_plan from
  (s_seq (sl1 := [(0, 1), (1, 1), (2, 1)]) (p1 := 31) (s_if (pt := 29) (pf := 31) (c_or (p1 := 17) (c_or (p1 := 11) (c_not (c_if_eqF (p1 := 8) (tg := 29) (e_cI (p1 := 5) (a_cons (ι := Value.int) (k0 := 1) (p1 := 1) (fun _ => rfl) (e_iload_n (k0 := 1) d_M_plan_0 rfl rfl) (a_cons (ι := Value.int) (k0 := 1) (p1 := 2) (fun _ => rfl) (e_iconst d_M_plan_1 (by decide)) (a_cons (ι := Value.int) (k0 := 1) (p1 := 5) (fun _ => rfl) (e_sipush d_M_plan_2 (by decide)) a_nil))) (k_stat ok_M_in mf_M_in tw_1703 tw_1702 d_M_plan_5 (by decide) (by decide) (by decide))) d_M_plan_8 rfl)) (c_icmp_ltT (p1 := 12) (p2 := 14) (tg := 29) (e_iload_n (k0 := 2) d_M_plan_11 rfl rfl) (e_bipush d_M_plan_12 (by decide)) d_M_plan_14 rfl)) (c_and (p1 := 21) (c_if_ltF (p1 := 18) (tg := 31) (e_iload_n (k0 := 2) d_M_plan_17 rfl rfl) d_M_plan_18 rfl) (c_not (c_if_neT (p1 := 26) (tg := 31) (e_cI (p1 := 23) (a_cons (ι := Value.ref) (k0 := 1) (p1 := 22) (fun _ => rfl) (e_aload_n (k0 := 0) d_M_plan_21 rfl rfl) (a_cons (ι := Value.int) (k0 := 1) (p1 := 23) (fun _ => rfl) (e_iload_n (k0 := 2) d_M_plan_22 rfl rfl) a_nil)) (k_virt ok_M_isGoer mf_M_isGoer ⟨tw_1715, tw_75⟩ rfl tw_1713 d_M_plan_23 (by decide) (by decide) (by decide))) d_M_plan_26 rfl)))) (s_ret (p1 := 30) (e_iconst d_M_plan_29 (by decide)) rfl d_M_plan_30) s_skip) (s_seq (sl1 := [(0, 1), (1, 1), (2, 1)]) (p1 := 36) (s_call (p1 := 33) (a_cons (ι := Value.ref) (k0 := 1) (p1 := 32) (fun _ => rfl) (e_aload_n (k0 := 0) d_M_plan_31 rfl rfl) (a_cons (ι := Value.int) (k0 := 1) (p1 := 33) (fun _ => rfl) (e_iload_n (k0 := 1) d_M_plan_32 rfl rfl) a_nil)) (k_virt ok_M_fillsPlan mf_M_fillsPlan ⟨tw_1874, tw_102⟩ rfl tw_1872 d_M_plan_33 (by decide) (by decide) (by decide))) (s_seq (sl1 := [(0, 1), (1, 1), (2, 1)]) (p1 := 46) (s_if (pt := 43) (pf := 46) (c_if_geF (p1 := 40) (tg := 46) (e_gI (k0 := 61) (p1 := 37) cf_12 (e_aload_n (k0 := 0) d_M_plan_36 rfl rfl) (by decide) tw_1421 d_M_plan_37) d_M_plan_40 rfl) (s_ret (p1 := 45) (e_bipush d_M_plan_43 (by decide)) rfl d_M_plan_45) s_skip) (s_ret (p1 := 86) (e_ite (pt := 51) (p1 := 55) (pf := 58) (c_icmp_neF (p1 := 47) (p2 := 48) (tg := 58) (e_iload_n (k0 := 2) d_M_plan_46 rfl rfl) (e_iconst d_M_plan_47 (by decide)) d_M_plan_48 rfl) (e_gI (k0 := 59) (p1 := 52) cf_12 (e_aload_n (k0 := 0) d_M_plan_51 rfl rfl) (by decide) tw_1419 d_M_plan_52) d_M_plan_55 rfl (e_ite (pt := 64) (p1 := 68) (pf := 71) (c_icmp_neF (p1 := 59) (p2 := 61) (tg := 71) (e_iload_n (k0 := 2) d_M_plan_58 rfl rfl) (e_bipush d_M_plan_59 (by decide)) d_M_plan_61 rfl) (e_gI (k0 := 60) (p1 := 65) cf_12 (e_aload_n (k0 := 0) d_M_plan_64 rfl rfl) (by decide) tw_1420 d_M_plan_65) d_M_plan_68 rfl (e_iadd (p1 := 72) (p2 := 85) (e_iconst d_M_plan_71 (by decide)) (e_cI (p1 := 82) (a_cons (ι := Value.ref) (k0 := 1) (p1 := 73) (fun _ => rfl) (e_aload_n (k0 := 0) d_M_plan_72 rfl rfl) (a_cons (ι := Value.int) (k0 := 1) (p1 := 77) (fun _ => rfl) (e_gI (k0 := 61) (p1 := 74) cf_12 (e_aload_n (k0 := 0) d_M_plan_73 rfl rfl) (by decide) tw_1421 d_M_plan_74) (a_cons (ι := Value.int) (k0 := 1) (p1 := 81) (fun _ => rfl) (e_cI (p1 := 78) (a_cons (ι := Value.ref) (k0 := 1) (p1 := 78) (fun _ => rfl) (e_aload_n (k0 := 0) d_M_plan_77 rfl rfl) a_nil) (k_virt ok_M_sights mf_M_sights ⟨tw_1878, tw_103⟩ rfl tw_1876 d_M_plan_78 (by decide) (by decide) (by decide))) (a_cons (ι := Value.int) (k0 := 1) (p1 := 82) (fun _ => rfl) (e_iload_n (k0 := 2) d_M_plan_81 rfl rfl) a_nil)))) (k_virt ok_M_digitOf mf_M_digitOf ⟨tw_1885, tw_104⟩ rfl tw_1883 d_M_plan_82 (by decide) (by decide) (by decide))) d_M_plan_85))) rfl d_M_plan_86)))))
/-! BlinkerCrossModel.fillsGains()V -/
abbrev y_M_fillsGains : MethodName := ⟨"BlinkerCrossModel", "fillsGains", "()V"⟩
abbrev Y_M_fillsGains : Yt := (prog_14_method_91_code, 4, "BlinkerCrossModel", 4, none, "fillsGains")
theorem d_M_fillsGains_0 : decode prog_14_method_91_code 0 = .ok (.aload_n 0, 1) := by decide +kernel
theorem d_M_fillsGains_1 : decode prog_14_method_91_code 1 = .ok (.invokevirtual 357, 3) := by decide +kernel
theorem d_M_fillsGains_4 : decode prog_14_method_91_code 4 = .ok (.iconst 0, 1) := by decide +kernel
theorem d_M_fillsGains_5 : decode prog_14_method_91_code 5 = .ok (.istore_n 1, 1) := by decide +kernel
theorem d_M_fillsGains_6 : decode prog_14_method_91_code 6 = .ok (.iload_n 1, 1) := by decide +kernel
theorem d_M_fillsGains_7 : decode prog_14_method_91_code 7 = .ok (.aload_n 0, 1) := by decide +kernel
theorem d_M_fillsGains_8 : decode prog_14_method_91_code 8 = .ok (.getfield 52, 3) := by decide +kernel
theorem d_M_fillsGains_11 : decode prog_14_method_91_code 11 = .ok (.aload_n 0, 1) := by decide +kernel
theorem d_M_fillsGains_12 : decode prog_14_method_91_code 12 = .ok (.getfield 242, 3) := by decide +kernel
theorem d_M_fillsGains_15 : decode prog_14_method_91_code 15 = .ok (.iaload, 1) := by decide +kernel
theorem d_M_fillsGains_16 : decode prog_14_method_91_code 16 = .ok (.if_icmp .ge 66, 3) := by decide +kernel
theorem d_M_fillsGains_19 : decode prog_14_method_91_code 19 = .ok (.iconst 0, 1) := by decide +kernel
theorem d_M_fillsGains_20 : decode prog_14_method_91_code 20 = .ok (.istore_n 2, 1) := by decide +kernel
theorem d_M_fillsGains_21 : decode prog_14_method_91_code 21 = .ok (.iload_n 2, 1) := by decide +kernel
theorem d_M_fillsGains_22 : decode prog_14_method_91_code 22 = .ok (.aload_n 0, 1) := by decide +kernel
theorem d_M_fillsGains_23 : decode prog_14_method_91_code 23 = .ok (.getfield 46, 3) := by decide +kernel
theorem d_M_fillsGains_26 : decode prog_14_method_91_code 26 = .ok (.aload_n 0, 1) := by decide +kernel
theorem d_M_fillsGains_27 : decode prog_14_method_91_code 27 = .ok (.getfield 242, 3) := by decide +kernel
theorem d_M_fillsGains_30 : decode prog_14_method_91_code 30 = .ok (.iaload, 1) := by decide +kernel
theorem d_M_fillsGains_31 : decode prog_14_method_91_code 31 = .ok (.if_icmp .ge 45, 3) := by decide +kernel
theorem d_M_fillsGains_34 : decode prog_14_method_91_code 34 = .ok (.iconst 1, 1) := by decide +kernel
theorem d_M_fillsGains_35 : decode prog_14_method_91_code 35 = .ok (.istore_n 3, 1) := by decide +kernel
theorem d_M_fillsGains_36 : decode prog_14_method_91_code 36 = .ok (.iload_n 3, 1) := by decide +kernel
theorem d_M_fillsGains_37 : decode prog_14_method_91_code 37 = .ok (.iconst 5, 1) := by decide +kernel
theorem d_M_fillsGains_38 : decode prog_14_method_91_code 38 = .ok (.if_icmp .gt 32, 3) := by decide +kernel
theorem d_M_fillsGains_41 : decode prog_14_method_91_code 41 = .ok (.aload_n 0, 1) := by decide +kernel
theorem d_M_fillsGains_42 : decode prog_14_method_91_code 42 = .ok (.getfield 131, 3) := by decide +kernel
theorem d_M_fillsGains_45 : decode prog_14_method_91_code 45 = .ok (.bipush 36, 2) := by decide +kernel
theorem d_M_fillsGains_47 : decode prog_14_method_91_code 47 = .ok (.iload_n 1, 1) := by decide +kernel
theorem d_M_fillsGains_48 : decode prog_14_method_91_code 48 = .ok (.imul, 1) := by decide +kernel
theorem d_M_fillsGains_49 : decode prog_14_method_91_code 49 = .ok (.bipush 6, 2) := by decide +kernel
theorem d_M_fillsGains_51 : decode prog_14_method_91_code 51 = .ok (.iload_n 2, 1) := by decide +kernel
theorem d_M_fillsGains_52 : decode prog_14_method_91_code 52 = .ok (.imul, 1) := by decide +kernel
theorem d_M_fillsGains_53 : decode prog_14_method_91_code 53 = .ok (.iadd, 1) := by decide +kernel
theorem d_M_fillsGains_54 : decode prog_14_method_91_code 54 = .ok (.iload_n 3, 1) := by decide +kernel
theorem d_M_fillsGains_55 : decode prog_14_method_91_code 55 = .ok (.iadd, 1) := by decide +kernel
theorem d_M_fillsGains_56 : decode prog_14_method_91_code 56 = .ok (.aload_n 0, 1) := by decide +kernel
theorem d_M_fillsGains_57 : decode prog_14_method_91_code 57 = .ok (.iload_n 1, 1) := by decide +kernel
theorem d_M_fillsGains_58 : decode prog_14_method_91_code 58 = .ok (.iload_n 2, 1) := by decide +kernel
theorem d_M_fillsGains_59 : decode prog_14_method_91_code 59 = .ok (.iload_n 3, 1) := by decide +kernel
theorem d_M_fillsGains_60 : decode prog_14_method_91_code 60 = .ok (.invokevirtual 385, 3) := by decide +kernel
theorem d_M_fillsGains_63 : decode prog_14_method_91_code 63 = .ok (.iastore, 1) := by decide +kernel
theorem d_M_fillsGains_64 : decode prog_14_method_91_code 64 = .ok (.iinc 3 1, 3) := by decide +kernel
theorem d_M_fillsGains_67 : decode prog_14_method_91_code 67 = .ok (.goto (-31), 3) := by decide +kernel
theorem d_M_fillsGains_70 : decode prog_14_method_91_code 70 = .ok (.iinc 2 1, 3) := by decide +kernel
theorem d_M_fillsGains_73 : decode prog_14_method_91_code 73 = .ok (.goto (-52), 3) := by decide +kernel
theorem d_M_fillsGains_76 : decode prog_14_method_91_code 76 = .ok (.iinc 1 1, 3) := by decide +kernel
theorem d_M_fillsGains_79 : decode prog_14_method_91_code 79 = .ok (.goto (-73), 3) := by decide +kernel
theorem d_M_fillsGains_82 : decode prog_14_method_91_code 82 = .ok (.return_, 1) := by decide +kernel
noncomputable def Lc_M_fillsGains_1 : Xp Bool := o2 (fun x y => decide (x ≤ y)) (vI 3) (kI (ii 5))
noncomputable def Lb_M_fillsGains_1 : Sm := sAst 0 (gR 12 62 (vR 0)) (o2 (fun x y => x + y) (o2 (fun x y => x + y) (o2 (fun x y => x * y) (kI (ii 36)) (vI 1)) (o2 (fun x y => x * y) (kI (ii 6)) (vI 2))) (vI 3)) (cI (mV 12 D_M_gainOf) [asV Value.ref (vR 0), asV Value.int (vI 1), asV Value.int (vI 2), asV Value.int (vI 3)])
noncomputable def Lu_M_fillsGains_1 : Sm := sInc 3 (ii 1)
noncomputable def Lc_M_fillsGains_2 : Xp Bool := o2 (fun x y => decide (x < y)) (vI 2) (aI 0 (gR 12 23 (vR 0)) (gI 12 18 (vR 0)))
noncomputable def Lb_M_fillsGains_2 : Sm := sBlk 3 (sSeq (sDecl (asV Value.int (kI (ii 1)))) (sWh (Lc_M_fillsGains_1) (Lb_M_fillsGains_1) Lu_M_fillsGains_1))
noncomputable def Lu_M_fillsGains_2 : Sm := sInc 2 (ii 1)
noncomputable def Lc_M_fillsGains_3 : Xp Bool := o2 (fun x y => decide (x < y)) (vI 1) (aI 0 (gR 12 25 (vR 0)) (gI 12 18 (vR 0)))
noncomputable def Lb_M_fillsGains_3 : Sm := sBlk 2 (sSeq (sDecl (asV Value.int (kI (ii 0)))) (sWh (Lc_M_fillsGains_2) (Lb_M_fillsGains_2) Lu_M_fillsGains_2))
noncomputable def Lu_M_fillsGains_3 : Sm := sInc 1 (ii 1)
noncomputable def F_M_fillsGains : Sm := sSeq (sCall (mV 12 D_M_copies) [asV Value.ref (vR 0)]) (sSeq (sBlk 1 (sSeq (sDecl (asV Value.int (kI (ii 0)))) (sWh (Lc_M_fillsGains_3) (Lb_M_fillsGains_3) Lu_M_fillsGains_3))) (sRetV))
theorem mf_M_fillsGains : Mf y_M_fillsGains prog_14_method_91_code 4 none 0 := ⟨tw_1902, tw_134, by decide +kernel⟩
noncomputable def D_M_fillsGains : Dn := runS [1] F_M_fillsGains
theorem ok_M_fillsGains : MOK y_M_fillsGains prog_14_method_91_code 4 none 4 0 0 D_M_fillsGains := MOK.of (by decide) (by decide) (show SO Y_M_fillsGains [(0, 1)] [(0, 1)] 0 83 (([], 0), ([], 0)) F_M_fillsGains from
  (s_seq (sl1 := [(0, 1)]) (p1 := 4) (s_call (p1 := 1) (a_cons (ι := Value.ref) (k0 := 1) (p1 := 1) (fun _ => rfl) (e_aload_n (k0 := 0) d_M_fillsGains_0 rfl rfl) a_nil) (k_virt ok_M_copies mf_M_copies ⟨tw_1707, tw_73⟩ rfl tw_1705 d_M_fillsGains_1 (by decide) (by decide) (by decide))) (s_seq (sl1 := [(0, 1)]) (p1 := 82) (s_blk (sl1 := [(0, 1), (1, 1)]) (s_seq (sl1 := [(0, 1), (1, 1)]) (p1 := 6) (s_decl (p1 := 5) (e_iconst d_M_fillsGains_4 (by decide)) (t_istore_n d_M_fillsGains_5 rfl (by decide)) rfl) (s_for (pt := 19) (pu := 76) (pf := 82) (pg := 0) (c_icmp_geF (p1 := 7) (p2 := 16) (tg := 82) (e_iload_n (k0 := 1) d_M_fillsGains_6 rfl rfl) (e_iald (p1 := 11) (p2 := 15) (e_gR (k0 := 25) (p1 := 8) cf_12 (e_aload_n (k0 := 0) d_M_fillsGains_7 rfl rfl) (by decide) tw_1385 d_M_fillsGains_8) (e_gI (k0 := 18) (p1 := 12) cf_12 (e_aload_n (k0 := 0) d_M_fillsGains_11 rfl rfl) (by decide) tw_1378 d_M_fillsGains_12) d_M_fillsGains_15) d_M_fillsGains_16 rfl) (s_blk (sl1 := [(0, 1), (1, 1), (2, 1)]) (s_seq (sl1 := [(0, 1), (1, 1), (2, 1)]) (p1 := 21) (s_decl (p1 := 20) (e_iconst d_M_fillsGains_19 (by decide)) (t_istore_n d_M_fillsGains_20 rfl (by decide)) rfl) (s_for (pt := 34) (pu := 70) (pf := 76) (pg := 0) (c_icmp_geF (p1 := 22) (p2 := 31) (tg := 76) (e_iload_n (k0 := 2) d_M_fillsGains_21 rfl rfl) (e_iald (p1 := 26) (p2 := 30) (e_gR (k0 := 23) (p1 := 23) cf_12 (e_aload_n (k0 := 0) d_M_fillsGains_22 rfl rfl) (by decide) tw_1383 d_M_fillsGains_23) (e_gI (k0 := 18) (p1 := 27) cf_12 (e_aload_n (k0 := 0) d_M_fillsGains_26 rfl rfl) (by decide) tw_1378 d_M_fillsGains_27) d_M_fillsGains_30) d_M_fillsGains_31 rfl) (s_blk (sl1 := [(0, 1), (1, 1), (2, 1), (3, 1)]) (s_seq (sl1 := [(0, 1), (1, 1), (2, 1), (3, 1)]) (p1 := 36) (s_decl (p1 := 35) (e_iconst d_M_fillsGains_34 (by decide)) (t_istore_n d_M_fillsGains_35 rfl (by decide)) rfl) (s_for (pt := 41) (pu := 64) (pf := 70) (pg := 0) (c_icmp_gtF (p1 := 37) (p2 := 38) (tg := 70) (e_iload_n (k0 := 3) d_M_fillsGains_36 rfl rfl) (e_iconst d_M_fillsGains_37 (by decide)) d_M_fillsGains_38 rfl) (s_ast (p1 := 45) (p2 := 56) (p3 := 63) (e_gR (k0 := 62) (p1 := 42) cf_12 (e_aload_n (k0 := 0) d_M_fillsGains_41 rfl rfl) (by decide) tw_1422 d_M_fillsGains_42) (e_iadd (p1 := 54) (p2 := 55) (e_iadd (p1 := 49) (p2 := 53) (e_imul (p1 := 47) (p2 := 48) (e_bipush d_M_fillsGains_45 (by decide)) (e_iload_n (k0 := 1) d_M_fillsGains_47 rfl rfl) d_M_fillsGains_48) (e_imul (p1 := 51) (p2 := 52) (e_bipush d_M_fillsGains_49 (by decide)) (e_iload_n (k0 := 2) d_M_fillsGains_51 rfl rfl) d_M_fillsGains_52) d_M_fillsGains_53) (e_iload_n (k0 := 3) d_M_fillsGains_54 rfl rfl) d_M_fillsGains_55) (e_cI (p1 := 60) (a_cons (ι := Value.ref) (k0 := 1) (p1 := 57) (fun _ => rfl) (e_aload_n (k0 := 0) d_M_fillsGains_56 rfl rfl) (a_cons (ι := Value.int) (k0 := 1) (p1 := 58) (fun _ => rfl) (e_iload_n (k0 := 1) d_M_fillsGains_57 rfl rfl) (a_cons (ι := Value.int) (k0 := 1) (p1 := 59) (fun _ => rfl) (e_iload_n (k0 := 2) d_M_fillsGains_58 rfl rfl) (a_cons (ι := Value.int) (k0 := 1) (p1 := 60) (fun _ => rfl) (e_iload_n (k0 := 3) d_M_fillsGains_59 rfl rfl) a_nil)))) (k_virt ok_M_gainOf mf_M_gainOf ⟨tw_1854, tw_100⟩ rfl tw_1852 d_M_fillsGains_60 (by decide) (by decide) (by decide))) (as_i d_M_fillsGains_63)) (s_goto (p1 := 67) (s_inc (k0 := 3) d_M_fillsGains_64 rfl rfl (Nat.le_of_ble_eq_true rfl) rfl) d_M_fillsGains_67 rfl))) rfl) (s_goto (p1 := 73) (s_inc (k0 := 2) d_M_fillsGains_70 rfl rfl (Nat.le_of_ble_eq_true rfl) rfl) d_M_fillsGains_73 rfl))) rfl) (s_goto (p1 := 79) (s_inc (k0 := 1) d_M_fillsGains_76 rfl rfl (Nat.le_of_ble_eq_true rfl) rfl) d_M_fillsGains_79 rfl))) rfl) (s_retV rfl d_M_fillsGains_82))))
/-! BlinkerCrossModel.gainAt(III)I -/
abbrev y_M_gainAt : MethodName := ⟨"BlinkerCrossModel", "gainAt", "(III)I"⟩
abbrev Y_M_gainAt : Yt := (prog_14_method_92_code, 4, "BlinkerCrossModel", 0, (some .int), "gainAt")
theorem d_M_gainAt_0 : decode prog_14_method_92_code 0 = .ok (.aload_n 0, 1) := by decide +kernel
theorem d_M_gainAt_1 : decode prog_14_method_92_code 1 = .ok (.getfield 131, 3) := by decide +kernel
theorem d_M_gainAt_4 : decode prog_14_method_92_code 4 = .ok (.bipush 36, 2) := by decide +kernel
theorem d_M_gainAt_6 : decode prog_14_method_92_code 6 = .ok (.iload_n 1, 1) := by decide +kernel
theorem d_M_gainAt_7 : decode prog_14_method_92_code 7 = .ok (.imul, 1) := by decide +kernel
theorem d_M_gainAt_8 : decode prog_14_method_92_code 8 = .ok (.bipush 6, 2) := by decide +kernel
theorem d_M_gainAt_10 : decode prog_14_method_92_code 10 = .ok (.iload_n 2, 1) := by decide +kernel
theorem d_M_gainAt_11 : decode prog_14_method_92_code 11 = .ok (.imul, 1) := by decide +kernel
theorem d_M_gainAt_12 : decode prog_14_method_92_code 12 = .ok (.iadd, 1) := by decide +kernel
theorem d_M_gainAt_13 : decode prog_14_method_92_code 13 = .ok (.iload_n 3, 1) := by decide +kernel
theorem d_M_gainAt_14 : decode prog_14_method_92_code 14 = .ok (.iadd, 1) := by decide +kernel
theorem d_M_gainAt_15 : decode prog_14_method_92_code 15 = .ok (.iaload, 1) := by decide +kernel
theorem d_M_gainAt_16 : decode prog_14_method_92_code 16 = .ok (.ireturn, 1) := by decide +kernel
noncomputable def F_M_gainAt : Sm := sRet (asV Value.int (aI 0 (gR 12 62 (vR 0)) (o2 (fun x y => x + y) (o2 (fun x y => x + y) (o2 (fun x y => x * y) (kI (ii 36)) (vI 1)) (o2 (fun x y => x * y) (kI (ii 6)) (vI 2))) (vI 3))))
theorem mf_M_gainAt : Mf y_M_gainAt prog_14_method_92_code 4 (some .int) 3 := ⟨tw_1914, tw_134, by decide +kernel⟩
noncomputable def D_M_gainAt : Dn := runS [1, 1, 1, 1] F_M_gainAt
theorem ok_M_gainAt : MOK y_M_gainAt prog_14_method_92_code 4 (some .int) 0 0 0 D_M_gainAt := MOK.of (by decide) (by decide) (show SO Y_M_gainAt [(0, 1), (1, 1), (2, 1), (3, 1)] [(0, 1), (1, 1), (2, 1), (3, 1)] 0 17 (([], 0), ([], 0)) F_M_gainAt from
  (s_ret (p1 := 16) (e_iald (p1 := 4) (p2 := 15) (e_gR (k0 := 62) (p1 := 1) cf_12 (e_aload_n (k0 := 0) d_M_gainAt_0 rfl rfl) (by decide) tw_1422 d_M_gainAt_1) (e_iadd (p1 := 13) (p2 := 14) (e_iadd (p1 := 8) (p2 := 12) (e_imul (p1 := 6) (p2 := 7) (e_bipush d_M_gainAt_4 (by decide)) (e_iload_n (k0 := 1) d_M_gainAt_6 rfl rfl) d_M_gainAt_7) (e_imul (p1 := 10) (p2 := 11) (e_bipush d_M_gainAt_8 (by decide)) (e_iload_n (k0 := 2) d_M_gainAt_10 rfl rfl) d_M_gainAt_11) d_M_gainAt_12) (e_iload_n (k0 := 3) d_M_gainAt_13 rfl rfl) d_M_gainAt_14) d_M_gainAt_15) rfl d_M_gainAt_16))
/-! BlinkerCrossModel.takes(I)Z -/
abbrev y_M_takes : MethodName := ⟨"BlinkerCrossModel", "takes", "(I)Z"⟩
abbrev Y_M_takes : Yt := (prog_14_method_93_code, 3, "BlinkerCrossModel", 2, (some .boolean), "takes")
theorem d_M_takes_0 : decode prog_14_method_93_code 0 = .ok (.iconst 0, 1) := by decide +kernel
theorem d_M_takes_1 : decode prog_14_method_93_code 1 = .ok (.istore_n 2, 1) := by decide +kernel
theorem d_M_takes_2 : decode prog_14_method_93_code 2 = .ok (.iload_n 2, 1) := by decide +kernel
theorem d_M_takes_3 : decode prog_14_method_93_code 3 = .ok (.bipush 6, 2) := by decide +kernel
theorem d_M_takes_5 : decode prog_14_method_93_code 5 = .ok (.if_icmp .ge 16, 3) := by decide +kernel
theorem d_M_takes_8 : decode prog_14_method_93_code 8 = .ok (.aload_n 0, 1) := by decide +kernel
theorem d_M_takes_9 : decode prog_14_method_93_code 9 = .ok (.getfield 137, 3) := by decide +kernel
theorem d_M_takes_12 : decode prog_14_method_93_code 12 = .ok (.iload_n 2, 1) := by decide +kernel
theorem d_M_takes_13 : decode prog_14_method_93_code 13 = .ok (.iconst 0, 1) := by decide +kernel
theorem d_M_takes_14 : decode prog_14_method_93_code 14 = .ok (.iastore, 1) := by decide +kernel
theorem d_M_takes_15 : decode prog_14_method_93_code 15 = .ok (.iinc 2 1, 3) := by decide +kernel
theorem d_M_takes_18 : decode prog_14_method_93_code 18 = .ok (.goto (-16), 3) := by decide +kernel
theorem d_M_takes_21 : decode prog_14_method_93_code 21 = .ok (.iconst 0, 1) := by decide +kernel
theorem d_M_takes_22 : decode prog_14_method_93_code 22 = .ok (.istore_n 2, 1) := by decide +kernel
theorem d_M_takes_23 : decode prog_14_method_93_code 23 = .ok (.iload_n 2, 1) := by decide +kernel
theorem d_M_takes_24 : decode prog_14_method_93_code 24 = .ok (.aload_n 0, 1) := by decide +kernel
theorem d_M_takes_25 : decode prog_14_method_93_code 25 = .ok (.getfield 52, 3) := by decide +kernel
theorem d_M_takes_28 : decode prog_14_method_93_code 28 = .ok (.aload_n 0, 1) := by decide +kernel
theorem d_M_takes_29 : decode prog_14_method_93_code 29 = .ok (.getfield 242, 3) := by decide +kernel
theorem d_M_takes_32 : decode prog_14_method_93_code 32 = .ok (.iaload, 1) := by decide +kernel
theorem d_M_takes_33 : decode prog_14_method_93_code 33 = .ok (.if_icmp .ge 64, 3) := by decide +kernel
theorem d_M_takes_36 : decode prog_14_method_93_code 36 = .ok (.aload_n 0, 1) := by decide +kernel
theorem d_M_takes_37 : decode prog_14_method_93_code 37 = .ok (.getfield 134, 3) := by decide +kernel
theorem d_M_takes_40 : decode prog_14_method_93_code 40 = .ok (.iload_n 2, 1) := by decide +kernel
theorem d_M_takes_41 : decode prog_14_method_93_code 41 = .ok (.aload_n 0, 1) := by decide +kernel
theorem d_M_takes_42 : decode prog_14_method_93_code 42 = .ok (.iload_n 1, 1) := by decide +kernel
theorem d_M_takes_43 : decode prog_14_method_93_code 43 = .ok (.aload_n 0, 1) := by decide +kernel
theorem d_M_takes_44 : decode prog_14_method_93_code 44 = .ok (.getfield 46, 3) := by decide +kernel
theorem d_M_takes_47 : decode prog_14_method_93_code 47 = .ok (.aload_n 0, 1) := by decide +kernel
theorem d_M_takes_48 : decode prog_14_method_93_code 48 = .ok (.getfield 242, 3) := by decide +kernel
theorem d_M_takes_51 : decode prog_14_method_93_code 51 = .ok (.iaload, 1) := by decide +kernel
theorem d_M_takes_52 : decode prog_14_method_93_code 52 = .ok (.iload_n 2, 1) := by decide +kernel
theorem d_M_takes_53 : decode prog_14_method_93_code 53 = .ok (.invokevirtual 444, 3) := by decide +kernel
theorem d_M_takes_56 : decode prog_14_method_93_code 56 = .ok (.iastore, 1) := by decide +kernel
theorem d_M_takes_57 : decode prog_14_method_93_code 57 = .ok (.aload_n 0, 1) := by decide +kernel
theorem d_M_takes_58 : decode prog_14_method_93_code 58 = .ok (.iload_n 2, 1) := by decide +kernel
theorem d_M_takes_59 : decode prog_14_method_93_code 59 = .ok (.invokevirtual 370, 3) := by decide +kernel
theorem d_M_takes_62 : decode prog_14_method_93_code 62 = .ok (.aload_n 0, 1) := by decide +kernel
theorem d_M_takes_63 : decode prog_14_method_93_code 63 = .ok (.getfield 134, 3) := by decide +kernel
theorem d_M_takes_66 : decode prog_14_method_93_code 66 = .ok (.iload_n 2, 1) := by decide +kernel
theorem d_M_takes_67 : decode prog_14_method_93_code 67 = .ok (.iaload, 1) := by decide +kernel
theorem d_M_takes_68 : decode prog_14_method_93_code 68 = .ok (.ishr, 1) := by decide +kernel
theorem d_M_takes_69 : decode prog_14_method_93_code 69 = .ok (.iconst 1, 1) := by decide +kernel
theorem d_M_takes_70 : decode prog_14_method_93_code 70 = .ok (.iand, 1) := by decide +kernel
theorem d_M_takes_71 : decode prog_14_method_93_code 71 = .ok (.ifCond .ne 5, 3) := by decide +kernel
theorem d_M_takes_74 : decode prog_14_method_93_code 74 = .ok (.iconst 0, 1) := by decide +kernel
theorem d_M_takes_75 : decode prog_14_method_93_code 75 = .ok (.ireturn, 1) := by decide +kernel
theorem d_M_takes_76 : decode prog_14_method_93_code 76 = .ok (.aload_n 0, 1) := by decide +kernel
theorem d_M_takes_77 : decode prog_14_method_93_code 77 = .ok (.getfield 137, 3) := by decide +kernel
theorem d_M_takes_80 : decode prog_14_method_93_code 80 = .ok (.aload_n 0, 1) := by decide +kernel
theorem d_M_takes_81 : decode prog_14_method_93_code 81 = .ok (.getfield 134, 3) := by decide +kernel
theorem d_M_takes_84 : decode prog_14_method_93_code 84 = .ok (.iload_n 2, 1) := by decide +kernel
theorem d_M_takes_85 : decode prog_14_method_93_code 85 = .ok (.iaload, 1) := by decide +kernel
theorem d_M_takes_86 : decode prog_14_method_93_code 86 = .ok (.dup2, 1) := by decide +kernel
theorem d_M_takes_87 : decode prog_14_method_93_code 87 = .ok (.iaload, 1) := by decide +kernel
theorem d_M_takes_88 : decode prog_14_method_93_code 88 = .ok (.iconst 1, 1) := by decide +kernel
theorem d_M_takes_89 : decode prog_14_method_93_code 89 = .ok (.iadd, 1) := by decide +kernel
theorem d_M_takes_90 : decode prog_14_method_93_code 90 = .ok (.iastore, 1) := by decide +kernel
theorem d_M_takes_91 : decode prog_14_method_93_code 91 = .ok (.iinc 2 1, 3) := by decide +kernel
theorem d_M_takes_94 : decode prog_14_method_93_code 94 = .ok (.goto (-71), 3) := by decide +kernel
theorem d_M_takes_97 : decode prog_14_method_93_code 97 = .ok (.iconst 1, 1) := by decide +kernel
theorem d_M_takes_98 : decode prog_14_method_93_code 98 = .ok (.ireturn, 1) := by decide +kernel
noncomputable def Lc_M_takes_1 : Xp Bool := o2 (fun x y => decide (x < y)) (vI 2) (kI (ii 6))
noncomputable def Lb_M_takes_1 : Sm := sAst 0 (gR 12 64 (vR 0)) (vI 2) (kI (ii 0))
noncomputable def Lu_M_takes_1 : Sm := sInc 2 (ii 1)
noncomputable def Lc_M_takes_2 : Xp Bool := o2 (fun x y => decide (x < y)) (vI 2) (aI 0 (gR 12 25 (vR 0)) (gI 12 18 (vR 0)))
noncomputable def Lb_M_takes_2 : Sm := sSeq (sAst 0 (gR 12 63 (vR 0)) (vI 2) (cI (mV 12 D_M_digitOf) [asV Value.ref (vR 0), asV Value.int (vI 1), asV Value.int (aI 0 (gR 12 23 (vR 0)) (gI 12 18 (vR 0))), asV Value.int (vI 2)])) (sSeq (sIf (o1 (fun x => decide (x = 0)) (o2 (fun x y => x &&& y) (o2 (fun (x y : Int32) => x >>> (y &&& 31)) (cI (mV 12 D_M_seenBits) [asV Value.ref (vR 0), asV Value.int (vI 2)]) (aI 0 (gR 12 63 (vR 0)) (vI 2))) (kI (ii 1)))) (sRetZ (kI (ii 0))) (sSkip)) (sAop 0 (gR 12 64 (vR 0)) (aI 0 (gR 12 63 (vR 0)) (vI 2)) (fun x y => x + y) (kI (ii 1))))
noncomputable def Lu_M_takes_2 : Sm := sInc 2 (ii 1)
noncomputable def F_M_takes : Sm := sSeq (sBlk 2 (sSeq (sDecl (asV Value.int (kI (ii 0)))) (sWh (Lc_M_takes_1) (Lb_M_takes_1) Lu_M_takes_1))) (sSeq (sBlk 2 (sSeq (sDecl (asV Value.int (kI (ii 0)))) (sWh (Lc_M_takes_2) (Lb_M_takes_2) Lu_M_takes_2))) (sRetZ (kI (ii 1))))
theorem mf_M_takes : Mf y_M_takes prog_14_method_93_code 3 (some .boolean) 1 := ⟨tw_1906, tw_134, by decide +kernel⟩
noncomputable def D_M_takes : Dn := runS [1, 1] F_M_takes
theorem ok_M_takes : MOK y_M_takes prog_14_method_93_code 3 (some .boolean) 2 0 0 D_M_takes := MOK.of (by decide) (by decide) (show SO Y_M_takes [(0, 1), (1, 1)] [(0, 1), (1, 1)] 0 99 (([], 0), ([], 0)) F_M_takes from
  (s_seq (sl1 := [(0, 1), (1, 1)]) (p1 := 21) (s_blk (sl1 := [(0, 1), (1, 1), (2, 1)]) (s_seq (sl1 := [(0, 1), (1, 1), (2, 1)]) (p1 := 2) (s_decl (p1 := 1) (e_iconst d_M_takes_0 (by decide)) (t_istore_n d_M_takes_1 rfl (by decide)) rfl) (s_for (pt := 8) (pu := 15) (pf := 21) (pg := 0) (c_icmp_geF (p1 := 3) (p2 := 5) (tg := 21) (e_iload_n (k0 := 2) d_M_takes_2 rfl rfl) (e_bipush d_M_takes_3 (by decide)) d_M_takes_5 rfl) (s_ast (p1 := 12) (p2 := 13) (p3 := 14) (e_gR (k0 := 64) (p1 := 9) cf_12 (e_aload_n (k0 := 0) d_M_takes_8 rfl rfl) (by decide) tw_1424 d_M_takes_9) (e_iload_n (k0 := 2) d_M_takes_12 rfl rfl) (e_iconst d_M_takes_13 (by decide)) (as_i d_M_takes_14)) (s_goto (p1 := 18) (s_inc (k0 := 2) d_M_takes_15 rfl rfl (Nat.le_of_ble_eq_true rfl) rfl) d_M_takes_18 rfl))) rfl) (s_seq (sl1 := [(0, 1), (1, 1)]) (p1 := 97) (s_blk (sl1 := [(0, 1), (1, 1), (2, 1)]) (s_seq (sl1 := [(0, 1), (1, 1), (2, 1)]) (p1 := 23) (s_decl (p1 := 22) (e_iconst d_M_takes_21 (by decide)) (t_istore_n d_M_takes_22 rfl (by decide)) rfl) (s_for (pt := 36) (pu := 91) (pf := 97) (pg := 0) (c_icmp_geF (p1 := 24) (p2 := 33) (tg := 97) (e_iload_n (k0 := 2) d_M_takes_23 rfl rfl) (e_iald (p1 := 28) (p2 := 32) (e_gR (k0 := 25) (p1 := 25) cf_12 (e_aload_n (k0 := 0) d_M_takes_24 rfl rfl) (by decide) tw_1385 d_M_takes_25) (e_gI (k0 := 18) (p1 := 29) cf_12 (e_aload_n (k0 := 0) d_M_takes_28 rfl rfl) (by decide) tw_1378 d_M_takes_29) d_M_takes_32) d_M_takes_33 rfl) (s_seq (sl1 := [(0, 1), (1, 1), (2, 1)]) (p1 := 57) (s_ast (p1 := 40) (p2 := 41) (p3 := 56) (e_gR (k0 := 63) (p1 := 37) cf_12 (e_aload_n (k0 := 0) d_M_takes_36 rfl rfl) (by decide) tw_1423 d_M_takes_37) (e_iload_n (k0 := 2) d_M_takes_40 rfl rfl) (e_cI (p1 := 53) (a_cons (ι := Value.ref) (k0 := 1) (p1 := 42) (fun _ => rfl) (e_aload_n (k0 := 0) d_M_takes_41 rfl rfl) (a_cons (ι := Value.int) (k0 := 1) (p1 := 43) (fun _ => rfl) (e_iload_n (k0 := 1) d_M_takes_42 rfl rfl) (a_cons (ι := Value.int) (k0 := 1) (p1 := 52) (fun _ => rfl) (e_iald (p1 := 47) (p2 := 51) (e_gR (k0 := 23) (p1 := 44) cf_12 (e_aload_n (k0 := 0) d_M_takes_43 rfl rfl) (by decide) tw_1383 d_M_takes_44) (e_gI (k0 := 18) (p1 := 48) cf_12 (e_aload_n (k0 := 0) d_M_takes_47 rfl rfl) (by decide) tw_1378 d_M_takes_48) d_M_takes_51) (a_cons (ι := Value.int) (k0 := 1) (p1 := 53) (fun _ => rfl) (e_iload_n (k0 := 2) d_M_takes_52 rfl rfl) a_nil)))) (k_virt ok_M_digitOf mf_M_digitOf ⟨tw_1885, tw_104⟩ rfl tw_1883 d_M_takes_53 (by decide) (by decide) (by decide))) (as_i d_M_takes_56)) (s_seq (sl1 := [(0, 1), (1, 1), (2, 1)]) (p1 := 76) (s_if (pt := 74) (pf := 76) (c_if_neF (p1 := 71) (tg := 76) (e_iand (p1 := 69) (p2 := 70) (e_ishr (p1 := 62) (p2 := 68) (e_cI (p1 := 59) (a_cons (ι := Value.ref) (k0 := 1) (p1 := 58) (fun _ => rfl) (e_aload_n (k0 := 0) d_M_takes_57 rfl rfl) (a_cons (ι := Value.int) (k0 := 1) (p1 := 59) (fun _ => rfl) (e_iload_n (k0 := 2) d_M_takes_58 rfl rfl) a_nil)) (k_virt ok_M_seenBits mf_M_seenBits ⟨tw_1743, tw_82⟩ rfl tw_1741 d_M_takes_59 (by decide) (by decide) (by decide))) (e_iald (p1 := 66) (p2 := 67) (e_gR (k0 := 63) (p1 := 63) cf_12 (e_aload_n (k0 := 0) d_M_takes_62 rfl rfl) (by decide) tw_1423 d_M_takes_63) (e_iload_n (k0 := 2) d_M_takes_66 rfl rfl) d_M_takes_67) d_M_takes_68) (e_iconst d_M_takes_69 (by decide)) d_M_takes_70) d_M_takes_71 rfl) (s_retZ (p1 := 75) (e_iconst d_M_takes_74 (by decide)) rfl d_M_takes_75) s_skip) (s_aop (p1 := 80) (p2 := 86) (p3 := 89) (e_gR (k0 := 64) (p1 := 77) cf_12 (e_aload_n (k0 := 0) d_M_takes_76 rfl rfl) (by decide) tw_1424 d_M_takes_77) (e_iald (p1 := 84) (p2 := 85) (e_gR (k0 := 63) (p1 := 81) cf_12 (e_aload_n (k0 := 0) d_M_takes_80 rfl rfl) (by decide) tw_1423 d_M_takes_81) (e_iload_n (k0 := 2) d_M_takes_84 rfl rfl) d_M_takes_85) d_M_takes_86 (ad_i d_M_takes_87) (e_iconst d_M_takes_88 (by decide)) (op_iadd d_M_takes_89) (as_i d_M_takes_90)))) (s_goto (p1 := 94) (s_inc (k0 := 2) d_M_takes_91 rfl rfl (Nat.le_of_ble_eq_true rfl) rfl) d_M_takes_94 rfl))) rfl) (s_retZ (p1 := 98) (e_iconst d_M_takes_97 (by decide)) rfl d_M_takes_98))))
/-! BlinkerCrossModel.takenGain()I -/
abbrev y_M_takenGain : MethodName := ⟨"BlinkerCrossModel", "takenGain", "()I"⟩
abbrev Y_M_takenGain : Yt := (prog_14_method_94_code, 3, "BlinkerCrossModel", 1, (some .int), "takenGain")
theorem d_M_takenGain_0 : decode prog_14_method_94_code 0 = .ok (.iconst 0, 1) := by decide +kernel
theorem d_M_takenGain_1 : decode prog_14_method_94_code 1 = .ok (.istore_n 1, 1) := by decide +kernel
theorem d_M_takenGain_2 : decode prog_14_method_94_code 2 = .ok (.iconst 0, 1) := by decide +kernel
theorem d_M_takenGain_3 : decode prog_14_method_94_code 3 = .ok (.istore_n 2, 1) := by decide +kernel
theorem d_M_takenGain_4 : decode prog_14_method_94_code 4 = .ok (.iload_n 2, 1) := by decide +kernel
theorem d_M_takenGain_5 : decode prog_14_method_94_code 5 = .ok (.aload_n 0, 1) := by decide +kernel
theorem d_M_takenGain_6 : decode prog_14_method_94_code 6 = .ok (.getfield 52, 3) := by decide +kernel
theorem d_M_takenGain_9 : decode prog_14_method_94_code 9 = .ok (.aload_n 0, 1) := by decide +kernel
theorem d_M_takenGain_10 : decode prog_14_method_94_code 10 = .ok (.getfield 242, 3) := by decide +kernel
theorem d_M_takenGain_13 : decode prog_14_method_94_code 13 = .ok (.iaload, 1) := by decide +kernel
theorem d_M_takenGain_14 : decode prog_14_method_94_code 14 = .ok (.if_icmp .ge 34, 3) := by decide +kernel
theorem d_M_takenGain_17 : decode prog_14_method_94_code 17 = .ok (.iload_n 1, 1) := by decide +kernel
theorem d_M_takenGain_18 : decode prog_14_method_94_code 18 = .ok (.aload_n 0, 1) := by decide +kernel
theorem d_M_takenGain_19 : decode prog_14_method_94_code 19 = .ok (.iload_n 2, 1) := by decide +kernel
theorem d_M_takenGain_20 : decode prog_14_method_94_code 20 = .ok (.aload_n 0, 1) := by decide +kernel
theorem d_M_takenGain_21 : decode prog_14_method_94_code 21 = .ok (.getfield 134, 3) := by decide +kernel
theorem d_M_takenGain_24 : decode prog_14_method_94_code 24 = .ok (.iload_n 2, 1) := by decide +kernel
theorem d_M_takenGain_25 : decode prog_14_method_94_code 25 = .ok (.iaload, 1) := by decide +kernel
theorem d_M_takenGain_26 : decode prog_14_method_94_code 26 = .ok (.aload_n 0, 1) := by decide +kernel
theorem d_M_takenGain_27 : decode prog_14_method_94_code 27 = .ok (.getfield 137, 3) := by decide +kernel
theorem d_M_takenGain_30 : decode prog_14_method_94_code 30 = .ok (.aload_n 0, 1) := by decide +kernel
theorem d_M_takenGain_31 : decode prog_14_method_94_code 31 = .ok (.getfield 134, 3) := by decide +kernel
theorem d_M_takenGain_34 : decode prog_14_method_94_code 34 = .ok (.iload_n 2, 1) := by decide +kernel
theorem d_M_takenGain_35 : decode prog_14_method_94_code 35 = .ok (.iaload, 1) := by decide +kernel
theorem d_M_takenGain_36 : decode prog_14_method_94_code 36 = .ok (.iaload, 1) := by decide +kernel
theorem d_M_takenGain_37 : decode prog_14_method_94_code 37 = .ok (.invokevirtual 462, 3) := by decide +kernel
theorem d_M_takenGain_40 : decode prog_14_method_94_code 40 = .ok (.iadd, 1) := by decide +kernel
theorem d_M_takenGain_41 : decode prog_14_method_94_code 41 = .ok (.istore_n 1, 1) := by decide +kernel
theorem d_M_takenGain_42 : decode prog_14_method_94_code 42 = .ok (.iinc 2 1, 3) := by decide +kernel
theorem d_M_takenGain_45 : decode prog_14_method_94_code 45 = .ok (.goto (-41), 3) := by decide +kernel
theorem d_M_takenGain_48 : decode prog_14_method_94_code 48 = .ok (.iload_n 1, 1) := by decide +kernel
theorem d_M_takenGain_49 : decode prog_14_method_94_code 49 = .ok (.ireturn, 1) := by decide +kernel
noncomputable def Lc_M_takenGain_1 : Xp Bool := o2 (fun x y => decide (x < y)) (vI 2) (aI 0 (gR 12 25 (vR 0)) (gI 12 18 (vR 0)))
noncomputable def Lb_M_takenGain_1 : Sm := sSet 1 (asV Value.int (o2 (fun x y => x + y) (vI 1) (cI (mV 12 D_M_gainAt) [asV Value.ref (vR 0), asV Value.int (vI 2), asV Value.int (aI 0 (gR 12 63 (vR 0)) (vI 2)), asV Value.int (aI 0 (gR 12 64 (vR 0)) (aI 0 (gR 12 63 (vR 0)) (vI 2)))])))
noncomputable def Lu_M_takenGain_1 : Sm := sInc 2 (ii 1)
noncomputable def F_M_takenGain : Sm := sSeq (sDecl (asV Value.int (kI (ii 0)))) (sSeq (sBlk 2 (sSeq (sDecl (asV Value.int (kI (ii 0)))) (sWh (Lc_M_takenGain_1) (Lb_M_takenGain_1) Lu_M_takenGain_1))) (sRet (asV Value.int (vI 1))))
theorem mf_M_takenGain : Mf y_M_takenGain prog_14_method_94_code 3 (some .int) 0 := ⟨tw_1926, tw_134, by decide +kernel⟩
noncomputable def D_M_takenGain : Dn := runS [1] F_M_takenGain
theorem ok_M_takenGain : MOK y_M_takenGain prog_14_method_94_code 3 (some .int) 1 0 0 D_M_takenGain := MOK.of (by decide) (by decide) (show SO Y_M_takenGain [(0, 1)] [(0, 1), (1, 1)] 0 50 (([], 0), ([], 0)) F_M_takenGain from
  (s_seq (sl1 := [(0, 1), (1, 1)]) (p1 := 2) (s_decl (p1 := 1) (e_iconst d_M_takenGain_0 (by decide)) (t_istore_n d_M_takenGain_1 rfl (by decide)) rfl) (s_seq (sl1 := [(0, 1), (1, 1)]) (p1 := 48) (s_blk (sl1 := [(0, 1), (1, 1), (2, 1)]) (s_seq (sl1 := [(0, 1), (1, 1), (2, 1)]) (p1 := 4) (s_decl (p1 := 3) (e_iconst d_M_takenGain_2 (by decide)) (t_istore_n d_M_takenGain_3 rfl (by decide)) rfl) (s_for (pt := 17) (pu := 42) (pf := 48) (pg := 0) (c_icmp_geF (p1 := 5) (p2 := 14) (tg := 48) (e_iload_n (k0 := 2) d_M_takenGain_4 rfl rfl) (e_iald (p1 := 9) (p2 := 13) (e_gR (k0 := 25) (p1 := 6) cf_12 (e_aload_n (k0 := 0) d_M_takenGain_5 rfl rfl) (by decide) tw_1385 d_M_takenGain_6) (e_gI (k0 := 18) (p1 := 10) cf_12 (e_aload_n (k0 := 0) d_M_takenGain_9 rfl rfl) (by decide) tw_1378 d_M_takenGain_10) d_M_takenGain_13) d_M_takenGain_14 rfl) (s_set (k0 := 1) (p1 := 41) (e_iadd (p1 := 18) (p2 := 40) (e_iload_n (k0 := 1) d_M_takenGain_17 rfl rfl) (e_cI (p1 := 37) (a_cons (ι := Value.ref) (k0 := 1) (p1 := 19) (fun _ => rfl) (e_aload_n (k0 := 0) d_M_takenGain_18 rfl rfl) (a_cons (ι := Value.int) (k0 := 1) (p1 := 20) (fun _ => rfl) (e_iload_n (k0 := 2) d_M_takenGain_19 rfl rfl) (a_cons (ι := Value.int) (k0 := 1) (p1 := 26) (fun _ => rfl) (e_iald (p1 := 24) (p2 := 25) (e_gR (k0 := 63) (p1 := 21) cf_12 (e_aload_n (k0 := 0) d_M_takenGain_20 rfl rfl) (by decide) tw_1423 d_M_takenGain_21) (e_iload_n (k0 := 2) d_M_takenGain_24 rfl rfl) d_M_takenGain_25) (a_cons (ι := Value.int) (k0 := 1) (p1 := 37) (fun _ => rfl) (e_iald (p1 := 30) (p2 := 36) (e_gR (k0 := 64) (p1 := 27) cf_12 (e_aload_n (k0 := 0) d_M_takenGain_26 rfl rfl) (by decide) tw_1424 d_M_takenGain_27) (e_iald (p1 := 34) (p2 := 35) (e_gR (k0 := 63) (p1 := 31) cf_12 (e_aload_n (k0 := 0) d_M_takenGain_30 rfl rfl) (by decide) tw_1423 d_M_takenGain_31) (e_iload_n (k0 := 2) d_M_takenGain_34 rfl rfl) d_M_takenGain_35) d_M_takenGain_36) a_nil)))) (k_virt ok_M_gainAt mf_M_gainAt ⟨tw_1913, tw_110⟩ rfl tw_1911 d_M_takenGain_37 (by decide) (by decide) (by decide))) d_M_takenGain_40) (t_istore_n d_M_takenGain_41 rfl (by decide)) rfl rfl) (s_goto (p1 := 45) (s_inc (k0 := 2) d_M_takenGain_42 rfl rfl (Nat.le_of_ble_eq_true rfl) rfl) d_M_takenGain_45 rfl))) rfl) (s_ret (p1 := 49) (e_iload_n (k0 := 1) d_M_takenGain_48 rfl rfl) rfl d_M_takenGain_49))))
/-! BlinkerCrossModel.isRest()Z -/
abbrev y_M_isRest : MethodName := ⟨"BlinkerCrossModel", "isRest", "()Z"⟩
abbrev Y_M_isRest : Yt := (prog_14_method_95_code, 4, "BlinkerCrossModel", 2, (some .boolean), "isRest")
theorem d_M_isRest_0 : decode prog_14_method_95_code 0 = .ok (.iconst 0, 1) := by decide +kernel
theorem d_M_isRest_1 : decode prog_14_method_95_code 1 = .ok (.istore_n 1, 1) := by decide +kernel
theorem d_M_isRest_2 : decode prog_14_method_95_code 2 = .ok (.iload_n 1, 1) := by decide +kernel
theorem d_M_isRest_3 : decode prog_14_method_95_code 3 = .ok (.aload_n 0, 1) := by decide +kernel
theorem d_M_isRest_4 : decode prog_14_method_95_code 4 = .ok (.getfield 52, 3) := by decide +kernel
theorem d_M_isRest_7 : decode prog_14_method_95_code 7 = .ok (.aload_n 0, 1) := by decide +kernel
theorem d_M_isRest_8 : decode prog_14_method_95_code 8 = .ok (.getfield 242, 3) := by decide +kernel
theorem d_M_isRest_11 : decode prog_14_method_95_code 11 = .ok (.iaload, 1) := by decide +kernel
theorem d_M_isRest_12 : decode prog_14_method_95_code 12 = .ok (.if_icmp .ge 96, 3) := by decide +kernel
theorem d_M_isRest_15 : decode prog_14_method_95_code 15 = .ok (.aload_n 0, 1) := by decide +kernel
theorem d_M_isRest_16 : decode prog_14_method_95_code 16 = .ok (.iload_n 1, 1) := by decide +kernel
theorem d_M_isRest_17 : decode prog_14_method_95_code 17 = .ok (.aload_n 0, 1) := by decide +kernel
theorem d_M_isRest_18 : decode prog_14_method_95_code 18 = .ok (.getfield 134, 3) := by decide +kernel
theorem d_M_isRest_21 : decode prog_14_method_95_code 21 = .ok (.iload_n 1, 1) := by decide +kernel
theorem d_M_isRest_22 : decode prog_14_method_95_code 22 = .ok (.iaload, 1) := by decide +kernel
theorem d_M_isRest_23 : decode prog_14_method_95_code 23 = .ok (.aload_n 0, 1) := by decide +kernel
theorem d_M_isRest_24 : decode prog_14_method_95_code 24 = .ok (.getfield 137, 3) := by decide +kernel
theorem d_M_isRest_27 : decode prog_14_method_95_code 27 = .ok (.aload_n 0, 1) := by decide +kernel
theorem d_M_isRest_28 : decode prog_14_method_95_code 28 = .ok (.getfield 134, 3) := by decide +kernel
theorem d_M_isRest_31 : decode prog_14_method_95_code 31 = .ok (.iload_n 1, 1) := by decide +kernel
theorem d_M_isRest_32 : decode prog_14_method_95_code 32 = .ok (.iaload, 1) := by decide +kernel
theorem d_M_isRest_33 : decode prog_14_method_95_code 33 = .ok (.iaload, 1) := by decide +kernel
theorem d_M_isRest_34 : decode prog_14_method_95_code 34 = .ok (.invokevirtual 462, 3) := by decide +kernel
theorem d_M_isRest_37 : decode prog_14_method_95_code 37 = .ok (.istore_n 2, 1) := by decide +kernel
theorem d_M_isRest_38 : decode prog_14_method_95_code 38 = .ok (.iconst 0, 1) := by decide +kernel
theorem d_M_isRest_39 : decode prog_14_method_95_code 39 = .ok (.istore_n 3, 1) := by decide +kernel
theorem d_M_isRest_40 : decode prog_14_method_95_code 40 = .ok (.iload_n 3, 1) := by decide +kernel
theorem d_M_isRest_41 : decode prog_14_method_95_code 41 = .ok (.aload_n 0, 1) := by decide +kernel
theorem d_M_isRest_42 : decode prog_14_method_95_code 42 = .ok (.getfield 46, 3) := by decide +kernel
theorem d_M_isRest_45 : decode prog_14_method_95_code 45 = .ok (.aload_n 0, 1) := by decide +kernel
theorem d_M_isRest_46 : decode prog_14_method_95_code 46 = .ok (.getfield 242, 3) := by decide +kernel
theorem d_M_isRest_49 : decode prog_14_method_95_code 49 = .ok (.iaload, 1) := by decide +kernel
theorem d_M_isRest_50 : decode prog_14_method_95_code 50 = .ok (.if_icmp .ge 52, 3) := by decide +kernel
theorem d_M_isRest_53 : decode prog_14_method_95_code 53 = .ok (.iload_n 3, 1) := by decide +kernel
theorem d_M_isRest_54 : decode prog_14_method_95_code 54 = .ok (.aload_n 0, 1) := by decide +kernel
theorem d_M_isRest_55 : decode prog_14_method_95_code 55 = .ok (.getfield 134, 3) := by decide +kernel
theorem d_M_isRest_58 : decode prog_14_method_95_code 58 = .ok (.iload_n 1, 1) := by decide +kernel
theorem d_M_isRest_59 : decode prog_14_method_95_code 59 = .ok (.iaload, 1) := by decide +kernel
theorem d_M_isRest_60 : decode prog_14_method_95_code 60 = .ok (.if_icmp .eq 36, 3) := by decide +kernel
theorem d_M_isRest_63 : decode prog_14_method_95_code 63 = .ok (.aload_n 0, 1) := by decide +kernel
theorem d_M_isRest_64 : decode prog_14_method_95_code 64 = .ok (.iload_n 1, 1) := by decide +kernel
theorem d_M_isRest_65 : decode prog_14_method_95_code 65 = .ok (.invokevirtual 370, 3) := by decide +kernel
theorem d_M_isRest_68 : decode prog_14_method_95_code 68 = .ok (.iload_n 3, 1) := by decide +kernel
theorem d_M_isRest_69 : decode prog_14_method_95_code 69 = .ok (.ishr, 1) := by decide +kernel
theorem d_M_isRest_70 : decode prog_14_method_95_code 70 = .ok (.iconst 1, 1) := by decide +kernel
theorem d_M_isRest_71 : decode prog_14_method_95_code 71 = .ok (.iand, 1) := by decide +kernel
theorem d_M_isRest_72 : decode prog_14_method_95_code 72 = .ok (.iconst 1, 1) := by decide +kernel
theorem d_M_isRest_73 : decode prog_14_method_95_code 73 = .ok (.if_icmp .ne 23, 3) := by decide +kernel
theorem d_M_isRest_76 : decode prog_14_method_95_code 76 = .ok (.aload_n 0, 1) := by decide +kernel
theorem d_M_isRest_77 : decode prog_14_method_95_code 77 = .ok (.iload_n 1, 1) := by decide +kernel
theorem d_M_isRest_78 : decode prog_14_method_95_code 78 = .ok (.iload_n 3, 1) := by decide +kernel
theorem d_M_isRest_79 : decode prog_14_method_95_code 79 = .ok (.aload_n 0, 1) := by decide +kernel
theorem d_M_isRest_80 : decode prog_14_method_95_code 80 = .ok (.getfield 137, 3) := by decide +kernel
theorem d_M_isRest_83 : decode prog_14_method_95_code 83 = .ok (.iload_n 3, 1) := by decide +kernel
theorem d_M_isRest_84 : decode prog_14_method_95_code 84 = .ok (.iaload, 1) := by decide +kernel
theorem d_M_isRest_85 : decode prog_14_method_95_code 85 = .ok (.iconst 1, 1) := by decide +kernel
theorem d_M_isRest_86 : decode prog_14_method_95_code 86 = .ok (.iadd, 1) := by decide +kernel
theorem d_M_isRest_87 : decode prog_14_method_95_code 87 = .ok (.invokevirtual 462, 3) := by decide +kernel
theorem d_M_isRest_90 : decode prog_14_method_95_code 90 = .ok (.iload_n 2, 1) := by decide +kernel
theorem d_M_isRest_91 : decode prog_14_method_95_code 91 = .ok (.if_icmp .le 5, 3) := by decide +kernel
theorem d_M_isRest_94 : decode prog_14_method_95_code 94 = .ok (.iconst 0, 1) := by decide +kernel
theorem d_M_isRest_95 : decode prog_14_method_95_code 95 = .ok (.ireturn, 1) := by decide +kernel
theorem d_M_isRest_96 : decode prog_14_method_95_code 96 = .ok (.iinc 3 1, 3) := by decide +kernel
theorem d_M_isRest_99 : decode prog_14_method_95_code 99 = .ok (.goto (-59), 3) := by decide +kernel
theorem d_M_isRest_102 : decode prog_14_method_95_code 102 = .ok (.iinc 1 1, 3) := by decide +kernel
theorem d_M_isRest_105 : decode prog_14_method_95_code 105 = .ok (.goto (-103), 3) := by decide +kernel
theorem d_M_isRest_108 : decode prog_14_method_95_code 108 = .ok (.iconst 1, 1) := by decide +kernel
theorem d_M_isRest_109 : decode prog_14_method_95_code 109 = .ok (.ireturn, 1) := by decide +kernel
noncomputable def Lc_M_isRest_1 : Xp Bool := o2 (fun x y => decide (x < y)) (vI 3) (aI 0 (gR 12 23 (vR 0)) (gI 12 18 (vR 0)))
noncomputable def Lb_M_isRest_1 : Sm := sIf (cAnd (cAnd (o2 (fun x y => decide (x ≠ y)) (vI 3) (aI 0 (gR 12 63 (vR 0)) (vI 1))) (o2 (fun x y => decide (x = y)) (o2 (fun x y => x &&& y) (o2 (fun (x y : Int32) => x >>> (y &&& 31)) (cI (mV 12 D_M_seenBits) [asV Value.ref (vR 0), asV Value.int (vI 1)]) (vI 3)) (kI (ii 1))) (kI (ii 1)))) (o2 (fun x y => decide (x > y)) (cI (mV 12 D_M_gainAt) [asV Value.ref (vR 0), asV Value.int (vI 1), asV Value.int (vI 3), asV Value.int (o2 (fun x y => x + y) (aI 0 (gR 12 64 (vR 0)) (vI 3)) (kI (ii 1)))]) (vI 2))) (sRetZ (kI (ii 0))) (sSkip)
noncomputable def Lu_M_isRest_1 : Sm := sInc 3 (ii 1)
noncomputable def Lc_M_isRest_2 : Xp Bool := o2 (fun x y => decide (x < y)) (vI 1) (aI 0 (gR 12 25 (vR 0)) (gI 12 18 (vR 0)))
noncomputable def Lb_M_isRest_2 : Sm := sBlk 2 (sSeq (sDecl (asV Value.int (cI (mV 12 D_M_gainAt) [asV Value.ref (vR 0), asV Value.int (vI 1), asV Value.int (aI 0 (gR 12 63 (vR 0)) (vI 1)), asV Value.int (aI 0 (gR 12 64 (vR 0)) (aI 0 (gR 12 63 (vR 0)) (vI 1)))]))) (sBlk 3 (sSeq (sDecl (asV Value.int (kI (ii 0)))) (sWh (Lc_M_isRest_1) (Lb_M_isRest_1) Lu_M_isRest_1))))
noncomputable def Lu_M_isRest_2 : Sm := sInc 1 (ii 1)
noncomputable def F_M_isRest : Sm := sSeq (sBlk 1 (sSeq (sDecl (asV Value.int (kI (ii 0)))) (sWh (Lc_M_isRest_2) (Lb_M_isRest_2) Lu_M_isRest_2))) (sRetZ (kI (ii 1)))
theorem mf_M_isRest : Mf y_M_isRest prog_14_method_95_code 4 (some .boolean) 0 := ⟨tw_1910, tw_134, by decide +kernel⟩
noncomputable def D_M_isRest : Dn := runS [1] F_M_isRest
theorem ok_M_isRest : MOK y_M_isRest prog_14_method_95_code 4 (some .boolean) 2 0 0 D_M_isRest := MOK.of (by decide) (by decide) (show SO Y_M_isRest [(0, 1)] [(0, 1)] 0 110 (([], 0), ([], 0)) F_M_isRest from
  (s_seq (sl1 := [(0, 1)]) (p1 := 108) (s_blk (sl1 := [(0, 1), (1, 1)]) (s_seq (sl1 := [(0, 1), (1, 1)]) (p1 := 2) (s_decl (p1 := 1) (e_iconst d_M_isRest_0 (by decide)) (t_istore_n d_M_isRest_1 rfl (by decide)) rfl) (s_for (pt := 15) (pu := 102) (pf := 108) (pg := 0) (c_icmp_geF (p1 := 3) (p2 := 12) (tg := 108) (e_iload_n (k0 := 1) d_M_isRest_2 rfl rfl) (e_iald (p1 := 7) (p2 := 11) (e_gR (k0 := 25) (p1 := 4) cf_12 (e_aload_n (k0 := 0) d_M_isRest_3 rfl rfl) (by decide) tw_1385 d_M_isRest_4) (e_gI (k0 := 18) (p1 := 8) cf_12 (e_aload_n (k0 := 0) d_M_isRest_7 rfl rfl) (by decide) tw_1378 d_M_isRest_8) d_M_isRest_11) d_M_isRest_12 rfl) (s_blk (sl1 := [(0, 1), (1, 1), (2, 1)]) (s_seq (sl1 := [(0, 1), (1, 1), (2, 1)]) (p1 := 38) (s_decl (p1 := 37) (e_cI (p1 := 34) (a_cons (ι := Value.ref) (k0 := 1) (p1 := 16) (fun _ => rfl) (e_aload_n (k0 := 0) d_M_isRest_15 rfl rfl) (a_cons (ι := Value.int) (k0 := 1) (p1 := 17) (fun _ => rfl) (e_iload_n (k0 := 1) d_M_isRest_16 rfl rfl) (a_cons (ι := Value.int) (k0 := 1) (p1 := 23) (fun _ => rfl) (e_iald (p1 := 21) (p2 := 22) (e_gR (k0 := 63) (p1 := 18) cf_12 (e_aload_n (k0 := 0) d_M_isRest_17 rfl rfl) (by decide) tw_1423 d_M_isRest_18) (e_iload_n (k0 := 1) d_M_isRest_21 rfl rfl) d_M_isRest_22) (a_cons (ι := Value.int) (k0 := 1) (p1 := 34) (fun _ => rfl) (e_iald (p1 := 27) (p2 := 33) (e_gR (k0 := 64) (p1 := 24) cf_12 (e_aload_n (k0 := 0) d_M_isRest_23 rfl rfl) (by decide) tw_1424 d_M_isRest_24) (e_iald (p1 := 31) (p2 := 32) (e_gR (k0 := 63) (p1 := 28) cf_12 (e_aload_n (k0 := 0) d_M_isRest_27 rfl rfl) (by decide) tw_1423 d_M_isRest_28) (e_iload_n (k0 := 1) d_M_isRest_31 rfl rfl) d_M_isRest_32) d_M_isRest_33) a_nil)))) (k_virt ok_M_gainAt mf_M_gainAt ⟨tw_1913, tw_110⟩ rfl tw_1911 d_M_isRest_34 (by decide) (by decide) (by decide))) (t_istore_n d_M_isRest_37 rfl (by decide)) rfl) (s_blk (sl1 := [(0, 1), (1, 1), (2, 1), (3, 1)]) (s_seq (sl1 := [(0, 1), (1, 1), (2, 1), (3, 1)]) (p1 := 40) (s_decl (p1 := 39) (e_iconst d_M_isRest_38 (by decide)) (t_istore_n d_M_isRest_39 rfl (by decide)) rfl) (s_for (pt := 53) (pu := 96) (pf := 102) (pg := 0) (c_icmp_geF (p1 := 41) (p2 := 50) (tg := 102) (e_iload_n (k0 := 3) d_M_isRest_40 rfl rfl) (e_iald (p1 := 45) (p2 := 49) (e_gR (k0 := 23) (p1 := 42) cf_12 (e_aload_n (k0 := 0) d_M_isRest_41 rfl rfl) (by decide) tw_1383 d_M_isRest_42) (e_gI (k0 := 18) (p1 := 46) cf_12 (e_aload_n (k0 := 0) d_M_isRest_45 rfl rfl) (by decide) tw_1378 d_M_isRest_46) d_M_isRest_49) d_M_isRest_50 rfl) (s_if (pt := 94) (pf := 96) (c_and (p1 := 76) (c_and (p1 := 63) (c_icmp_eqF (p1 := 54) (p2 := 60) (tg := 96) (e_iload_n (k0 := 3) d_M_isRest_53 rfl rfl) (e_iald (p1 := 58) (p2 := 59) (e_gR (k0 := 63) (p1 := 55) cf_12 (e_aload_n (k0 := 0) d_M_isRest_54 rfl rfl) (by decide) tw_1423 d_M_isRest_55) (e_iload_n (k0 := 1) d_M_isRest_58 rfl rfl) d_M_isRest_59) d_M_isRest_60 rfl) (c_icmp_neF (p1 := 72) (p2 := 73) (tg := 96) (e_iand (p1 := 70) (p2 := 71) (e_ishr (p1 := 68) (p2 := 69) (e_cI (p1 := 65) (a_cons (ι := Value.ref) (k0 := 1) (p1 := 64) (fun _ => rfl) (e_aload_n (k0 := 0) d_M_isRest_63 rfl rfl) (a_cons (ι := Value.int) (k0 := 1) (p1 := 65) (fun _ => rfl) (e_iload_n (k0 := 1) d_M_isRest_64 rfl rfl) a_nil)) (k_virt ok_M_seenBits mf_M_seenBits ⟨tw_1743, tw_82⟩ rfl tw_1741 d_M_isRest_65 (by decide) (by decide) (by decide))) (e_iload_n (k0 := 3) d_M_isRest_68 rfl rfl) d_M_isRest_69) (e_iconst d_M_isRest_70 (by decide)) d_M_isRest_71) (e_iconst d_M_isRest_72 (by decide)) d_M_isRest_73 rfl)) (c_icmp_leF (p1 := 90) (p2 := 91) (tg := 96) (e_cI (p1 := 87) (a_cons (ι := Value.ref) (k0 := 1) (p1 := 77) (fun _ => rfl) (e_aload_n (k0 := 0) d_M_isRest_76 rfl rfl) (a_cons (ι := Value.int) (k0 := 1) (p1 := 78) (fun _ => rfl) (e_iload_n (k0 := 1) d_M_isRest_77 rfl rfl) (a_cons (ι := Value.int) (k0 := 1) (p1 := 79) (fun _ => rfl) (e_iload_n (k0 := 3) d_M_isRest_78 rfl rfl) (a_cons (ι := Value.int) (k0 := 1) (p1 := 87) (fun _ => rfl) (e_iadd (p1 := 85) (p2 := 86) (e_iald (p1 := 83) (p2 := 84) (e_gR (k0 := 64) (p1 := 80) cf_12 (e_aload_n (k0 := 0) d_M_isRest_79 rfl rfl) (by decide) tw_1424 d_M_isRest_80) (e_iload_n (k0 := 3) d_M_isRest_83 rfl rfl) d_M_isRest_84) (e_iconst d_M_isRest_85 (by decide)) d_M_isRest_86) a_nil)))) (k_virt ok_M_gainAt mf_M_gainAt ⟨tw_1913, tw_110⟩ rfl tw_1911 d_M_isRest_87 (by decide) (by decide) (by decide))) (e_iload_n (k0 := 2) d_M_isRest_90 rfl rfl) d_M_isRest_91 rfl)) (s_retZ (p1 := 95) (e_iconst d_M_isRest_94 (by decide)) rfl d_M_isRest_95) s_skip) (s_goto (p1 := 99) (s_inc (k0 := 3) d_M_isRest_96 rfl rfl (Nat.le_of_ble_eq_true rfl) rfl) d_M_isRest_99 rfl))) rfl)) rfl) (s_goto (p1 := 105) (s_inc (k0 := 1) d_M_isRest_102 rfl rfl (Nat.le_of_ble_eq_true rfl) rfl) d_M_isRest_105 rfl))) rfl) (s_retZ (p1 := 109) (e_iconst d_M_isRest_108 (by decide)) rfl d_M_isRest_109)))
/-! BlinkerCrossModel.rests()I -/
abbrev y_M_rests : MethodName := ⟨"BlinkerCrossModel", "rests", "()I"⟩
abbrev Y_M_rests : Yt := (prog_14_method_96_code, 3, "BlinkerCrossModel", 5, (some .int), "rests")
theorem d_M_rests_0 : decode prog_14_method_96_code 0 = .ok (.aload_n 0, 1) := by decide +kernel
theorem d_M_rests_1 : decode prog_14_method_96_code 1 = .ok (.invokevirtual 465, 3) := by decide +kernel
theorem d_M_rests_4 : decode prog_14_method_96_code 4 = .ok (.iconst 0, 1) := by decide +kernel
theorem d_M_rests_5 : decode prog_14_method_96_code 5 = .ok (.istore_n 1, 1) := by decide +kernel
theorem d_M_rests_6 : decode prog_14_method_96_code 6 = .ok (.iconst 0, 1) := by decide +kernel
theorem d_M_rests_7 : decode prog_14_method_96_code 7 = .ok (.istore_n 2, 1) := by decide +kernel
theorem d_M_rests_8 : decode prog_14_method_96_code 8 = .ok (.iload_n 2, 1) := by decide +kernel
theorem d_M_rests_9 : decode prog_14_method_96_code 9 = .ok (.aload_n 0, 1) := by decide +kernel
theorem d_M_rests_10 : decode prog_14_method_96_code 10 = .ok (.getfield 46, 3) := by decide +kernel
theorem d_M_rests_13 : decode prog_14_method_96_code 13 = .ok (.aload_n 0, 1) := by decide +kernel
theorem d_M_rests_14 : decode prog_14_method_96_code 14 = .ok (.getfield 242, 3) := by decide +kernel
theorem d_M_rests_17 : decode prog_14_method_96_code 17 = .ok (.iaload, 1) := by decide +kernel
theorem d_M_rests_18 : decode prog_14_method_96_code 18 = .ok (.aload_n 0, 1) := by decide +kernel
theorem d_M_rests_19 : decode prog_14_method_96_code 19 = .ok (.getfield 52, 3) := by decide +kernel
theorem d_M_rests_22 : decode prog_14_method_96_code 22 = .ok (.aload_n 0, 1) := by decide +kernel
theorem d_M_rests_23 : decode prog_14_method_96_code 23 = .ok (.getfield 242, 3) := by decide +kernel
theorem d_M_rests_26 : decode prog_14_method_96_code 26 = .ok (.iaload, 1) := by decide +kernel
theorem d_M_rests_27 : decode prog_14_method_96_code 27 = .ok (.invokestatic 435, 3) := by decide +kernel
theorem d_M_rests_30 : decode prog_14_method_96_code 30 = .ok (.if_icmp .ge 27, 3) := by decide +kernel
theorem d_M_rests_33 : decode prog_14_method_96_code 33 = .ok (.aload_n 0, 1) := by decide +kernel
theorem d_M_rests_34 : decode prog_14_method_96_code 34 = .ok (.iload_n 2, 1) := by decide +kernel
theorem d_M_rests_35 : decode prog_14_method_96_code 35 = .ok (.invokevirtual 468, 3) := by decide +kernel
theorem d_M_rests_38 : decode prog_14_method_96_code 38 = .ok (.ifCond .eq 13, 3) := by decide +kernel
theorem d_M_rests_41 : decode prog_14_method_96_code 41 = .ok (.aload_n 0, 1) := by decide +kernel
theorem d_M_rests_42 : decode prog_14_method_96_code 42 = .ok (.invokevirtual 471, 3) := by decide +kernel
theorem d_M_rests_45 : decode prog_14_method_96_code 45 = .ok (.ifCond .eq 6, 3) := by decide +kernel
theorem d_M_rests_48 : decode prog_14_method_96_code 48 = .ok (.iinc 1 1, 3) := by decide +kernel
theorem d_M_rests_51 : decode prog_14_method_96_code 51 = .ok (.iinc 2 1, 3) := by decide +kernel
theorem d_M_rests_54 : decode prog_14_method_96_code 54 = .ok (.goto (-46), 3) := by decide +kernel
theorem d_M_rests_57 : decode prog_14_method_96_code 57 = .ok (.iload_n 1, 1) := by decide +kernel
theorem d_M_rests_58 : decode prog_14_method_96_code 58 = .ok (.ireturn, 1) := by decide +kernel
noncomputable def Lc_M_rests_1 : Xp Bool := o2 (fun x y => decide (x < y)) (vI 2) (cI (D_M_power) [asV Value.int (aI 0 (gR 12 23 (vR 0)) (gI 12 18 (vR 0))), asV Value.int (aI 0 (gR 12 25 (vR 0)) (gI 12 18 (vR 0)))])
noncomputable def Lb_M_rests_1 : Sm := sIf (cAnd (o1 (fun x => decide (x ≠ 0)) (cI (mV 12 D_M_takes) [asV Value.ref (vR 0), asV Value.int (vI 2)])) (o1 (fun x => decide (x ≠ 0)) (cI (mV 12 D_M_isRest) [asV Value.ref (vR 0)]))) (sInc 1 (ii 1)) (sSkip)
noncomputable def Lu_M_rests_1 : Sm := sInc 2 (ii 1)
noncomputable def F_M_rests : Sm := sSeq (sCall (mV 12 D_M_fillsGains) [asV Value.ref (vR 0)]) (sSeq (sDecl (asV Value.int (kI (ii 0)))) (sSeq (sBlk 2 (sSeq (sDecl (asV Value.int (kI (ii 0)))) (sWh (Lc_M_rests_1) (Lb_M_rests_1) Lu_M_rests_1))) (sRet (asV Value.int (vI 1)))))
theorem mf_M_rests : Mf y_M_rests prog_14_method_96_code 3 (some .int) 0 := ⟨tw_1898, tw_134, by decide +kernel⟩
noncomputable def D_M_rests : Dn := runS [1] F_M_rests
theorem ok_M_rests : MOK y_M_rests prog_14_method_96_code 3 (some .int) 5 0 0 D_M_rests := MOK.of (by decide) (by decide) (show SO Y_M_rests [(0, 1)] [(0, 1), (1, 1)] 0 59 (([], 0), ([], 0)) F_M_rests from
  (s_seq (sl1 := [(0, 1)]) (p1 := 4) (s_call (p1 := 1) (a_cons (ι := Value.ref) (k0 := 1) (p1 := 1) (fun _ => rfl) (e_aload_n (k0 := 0) d_M_rests_0 rfl rfl) a_nil) (k_virt ok_M_fillsGains mf_M_fillsGains ⟨tw_1901, tw_107⟩ rfl tw_1899 d_M_rests_1 (by decide) (by decide) (by decide))) (s_seq (sl1 := [(0, 1), (1, 1)]) (p1 := 6) (s_decl (p1 := 5) (e_iconst d_M_rests_4 (by decide)) (t_istore_n d_M_rests_5 rfl (by decide)) rfl) (s_seq (sl1 := [(0, 1), (1, 1)]) (p1 := 57) (s_blk (sl1 := [(0, 1), (1, 1), (2, 1)]) (s_seq (sl1 := [(0, 1), (1, 1), (2, 1)]) (p1 := 8) (s_decl (p1 := 7) (e_iconst d_M_rests_6 (by decide)) (t_istore_n d_M_rests_7 rfl (by decide)) rfl) (s_for (pt := 33) (pu := 51) (pf := 57) (pg := 0) (c_icmp_geF (p1 := 9) (p2 := 30) (tg := 57) (e_iload_n (k0 := 2) d_M_rests_8 rfl rfl) (e_cI (p1 := 27) (a_cons (ι := Value.int) (k0 := 1) (p1 := 18) (fun _ => rfl) (e_iald (p1 := 13) (p2 := 17) (e_gR (k0 := 23) (p1 := 10) cf_12 (e_aload_n (k0 := 0) d_M_rests_9 rfl rfl) (by decide) tw_1383 d_M_rests_10) (e_gI (k0 := 18) (p1 := 14) cf_12 (e_aload_n (k0 := 0) d_M_rests_13 rfl rfl) (by decide) tw_1378 d_M_rests_14) d_M_rests_17) (a_cons (ι := Value.int) (k0 := 1) (p1 := 27) (fun _ => rfl) (e_iald (p1 := 22) (p2 := 26) (e_gR (k0 := 25) (p1 := 19) cf_12 (e_aload_n (k0 := 0) d_M_rests_18 rfl rfl) (by decide) tw_1385 d_M_rests_19) (e_gI (k0 := 18) (p1 := 23) cf_12 (e_aload_n (k0 := 0) d_M_rests_22 rfl rfl) (by decide) tw_1378 d_M_rests_23) d_M_rests_26) a_nil)) (k_stat ok_M_power mf_M_power tw_1881 tw_1880 d_M_rests_27 (by decide) (by decide) (by decide))) d_M_rests_30 rfl) (s_if (pt := 48) (pf := 51) (c_and (p1 := 41) (c_if_eqF (p1 := 38) (tg := 51) (e_cI (p1 := 35) (a_cons (ι := Value.ref) (k0 := 1) (p1 := 34) (fun _ => rfl) (e_aload_n (k0 := 0) d_M_rests_33 rfl rfl) (a_cons (ι := Value.int) (k0 := 1) (p1 := 35) (fun _ => rfl) (e_iload_n (k0 := 2) d_M_rests_34 rfl rfl) a_nil)) (k_virt ok_M_takes mf_M_takes ⟨tw_1905, tw_108⟩ rfl tw_1903 d_M_rests_35 (by decide) (by decide) (by decide))) d_M_rests_38 rfl) (c_if_eqF (p1 := 45) (tg := 51) (e_cI (p1 := 42) (a_cons (ι := Value.ref) (k0 := 1) (p1 := 42) (fun _ => rfl) (e_aload_n (k0 := 0) d_M_rests_41 rfl rfl) a_nil) (k_virt ok_M_isRest mf_M_isRest ⟨tw_1909, tw_109⟩ rfl tw_1907 d_M_rests_42 (by decide) (by decide) (by decide))) d_M_rests_45 rfl)) (s_inc (k0 := 1) d_M_rests_48 rfl rfl (Nat.le_of_ble_eq_true rfl) rfl) s_skip) (s_goto (p1 := 54) (s_inc (k0 := 2) d_M_rests_51 rfl rfl (Nat.le_of_ble_eq_true rfl) rfl) d_M_rests_54 rfl))) rfl) (s_ret (p1 := 58) (e_iload_n (k0 := 1) d_M_rests_57 rfl rfl) rfl d_M_rests_58)))))
/-! BlinkerCrossModel.bestOf(IZ)I -/
abbrev y_M_bestOf : MethodName := ⟨"BlinkerCrossModel", "bestOf", "(IZ)I"⟩
abbrev Y_M_bestOf : Yt := (prog_14_method_97_code, 6, "BlinkerCrossModel", 5, (some .int), "bestOf")
theorem d_M_bestOf_0 : decode prog_14_method_97_code 0 = .ok (.iload_n 1, 1) := by decide +kernel
theorem d_M_bestOf_1 : decode prog_14_method_97_code 1 = .ok (.iconst (-1), 1) := by decide +kernel
theorem d_M_bestOf_2 : decode prog_14_method_97_code 2 = .ok (.if_icmp .eq 15, 3) := by decide +kernel
theorem d_M_bestOf_5 : decode prog_14_method_97_code 5 = .ok (.aload_n 0, 1) := by decide +kernel
theorem d_M_bestOf_6 : decode prog_14_method_97_code 6 = .ok (.iload_n 1, 1) := by decide +kernel
theorem d_M_bestOf_7 : decode prog_14_method_97_code 7 = .ok (.invokevirtual 345, 3) := by decide +kernel
theorem d_M_bestOf_10 : decode prog_14_method_97_code 10 = .ok (.ifCond .ne 7, 3) := by decide +kernel
theorem d_M_bestOf_13 : decode prog_14_method_97_code 13 = .ok (.ldc_w 421, 3) := by decide +kernel
theorem d_M_bestOf_16 : decode prog_14_method_97_code 16 = .ok (.ireturn, 1) := by decide +kernel
theorem d_M_bestOf_17 : decode prog_14_method_97_code 17 = .ok (.aload_n 0, 1) := by decide +kernel
theorem d_M_bestOf_18 : decode prog_14_method_97_code 18 = .ok (.invokevirtual 465, 3) := by decide +kernel
theorem d_M_bestOf_21 : decode prog_14_method_97_code 21 = .ok (.iconst (-1), 1) := by decide +kernel
theorem d_M_bestOf_22 : decode prog_14_method_97_code 22 = .ok (.istore_n 3, 1) := by decide +kernel
theorem d_M_bestOf_23 : decode prog_14_method_97_code 23 = .ok (.iconst 0, 1) := by decide +kernel
theorem d_M_bestOf_24 : decode prog_14_method_97_code 24 = .ok (.istore 4, 2) := by decide +kernel
theorem d_M_bestOf_26 : decode prog_14_method_97_code 26 = .ok (.iconst 0, 1) := by decide +kernel
theorem d_M_bestOf_27 : decode prog_14_method_97_code 27 = .ok (.istore 5, 2) := by decide +kernel
theorem d_M_bestOf_29 : decode prog_14_method_97_code 29 = .ok (.iload 5, 2) := by decide +kernel
theorem d_M_bestOf_31 : decode prog_14_method_97_code 31 = .ok (.aload_n 0, 1) := by decide +kernel
theorem d_M_bestOf_32 : decode prog_14_method_97_code 32 = .ok (.getfield 46, 3) := by decide +kernel
theorem d_M_bestOf_35 : decode prog_14_method_97_code 35 = .ok (.aload_n 0, 1) := by decide +kernel
theorem d_M_bestOf_36 : decode prog_14_method_97_code 36 = .ok (.getfield 242, 3) := by decide +kernel
theorem d_M_bestOf_39 : decode prog_14_method_97_code 39 = .ok (.iaload, 1) := by decide +kernel
theorem d_M_bestOf_40 : decode prog_14_method_97_code 40 = .ok (.aload_n 0, 1) := by decide +kernel
theorem d_M_bestOf_41 : decode prog_14_method_97_code 41 = .ok (.getfield 52, 3) := by decide +kernel
theorem d_M_bestOf_44 : decode prog_14_method_97_code 44 = .ok (.aload_n 0, 1) := by decide +kernel
theorem d_M_bestOf_45 : decode prog_14_method_97_code 45 = .ok (.getfield 242, 3) := by decide +kernel
theorem d_M_bestOf_48 : decode prog_14_method_97_code 48 = .ok (.iaload, 1) := by decide +kernel
theorem d_M_bestOf_49 : decode prog_14_method_97_code 49 = .ok (.invokestatic 435, 3) := by decide +kernel
theorem d_M_bestOf_52 : decode prog_14_method_97_code 52 = .ok (.if_icmp .ge 54, 3) := by decide +kernel
theorem d_M_bestOf_55 : decode prog_14_method_97_code 55 = .ok (.aload_n 0, 1) := by decide +kernel
theorem d_M_bestOf_56 : decode prog_14_method_97_code 56 = .ok (.iload 5, 2) := by decide +kernel
theorem d_M_bestOf_58 : decode prog_14_method_97_code 58 = .ok (.invokevirtual 468, 3) := by decide +kernel
theorem d_M_bestOf_61 : decode prog_14_method_97_code 61 = .ok (.ifCond .eq 39, 3) := by decide +kernel
theorem d_M_bestOf_64 : decode prog_14_method_97_code 64 = .ok (.iload_n 2, 1) := by decide +kernel
theorem d_M_bestOf_65 : decode prog_14_method_97_code 65 = .ok (.ifCond .eq 10, 3) := by decide +kernel
theorem d_M_bestOf_68 : decode prog_14_method_97_code 68 = .ok (.aload_n 0, 1) := by decide +kernel
theorem d_M_bestOf_69 : decode prog_14_method_97_code 69 = .ok (.invokevirtual 471, 3) := by decide +kernel
theorem d_M_bestOf_72 : decode prog_14_method_97_code 72 = .ok (.ifCond .eq 28, 3) := by decide +kernel
theorem d_M_bestOf_75 : decode prog_14_method_97_code 75 = .ok (.iload_n 3, 1) := by decide +kernel
theorem d_M_bestOf_76 : decode prog_14_method_97_code 76 = .ok (.ifCond .lt 15, 3) := by decide +kernel
theorem d_M_bestOf_79 : decode prog_14_method_97_code 79 = .ok (.aload_n 0, 1) := by decide +kernel
theorem d_M_bestOf_80 : decode prog_14_method_97_code 80 = .ok (.invokevirtual 475, 3) := by decide +kernel
theorem d_M_bestOf_83 : decode prog_14_method_97_code 83 = .ok (.iload 4, 2) := by decide +kernel
theorem d_M_bestOf_85 : decode prog_14_method_97_code 85 = .ok (.if_icmp .gt 6, 3) := by decide +kernel
theorem d_M_bestOf_88 : decode prog_14_method_97_code 88 = .ok (.goto 12, 3) := by decide +kernel
theorem d_M_bestOf_91 : decode prog_14_method_97_code 91 = .ok (.iload 5, 2) := by decide +kernel
theorem d_M_bestOf_93 : decode prog_14_method_97_code 93 = .ok (.istore_n 3, 1) := by decide +kernel
theorem d_M_bestOf_94 : decode prog_14_method_97_code 94 = .ok (.aload_n 0, 1) := by decide +kernel
theorem d_M_bestOf_95 : decode prog_14_method_97_code 95 = .ok (.invokevirtual 475, 3) := by decide +kernel
theorem d_M_bestOf_98 : decode prog_14_method_97_code 98 = .ok (.istore 4, 2) := by decide +kernel
theorem d_M_bestOf_100 : decode prog_14_method_97_code 100 = .ok (.iinc 5 1, 3) := by decide +kernel
theorem d_M_bestOf_103 : decode prog_14_method_97_code 103 = .ok (.goto (-74), 3) := by decide +kernel
theorem d_M_bestOf_106 : decode prog_14_method_97_code 106 = .ok (.iload_n 3, 1) := by decide +kernel
theorem d_M_bestOf_107 : decode prog_14_method_97_code 107 = .ok (.ifCond .ge 7, 3) := by decide +kernel
theorem d_M_bestOf_110 : decode prog_14_method_97_code 110 = .ok (.ldc_w 421, 3) := by decide +kernel
theorem d_M_bestOf_113 : decode prog_14_method_97_code 113 = .ok (.ireturn, 1) := by decide +kernel
theorem d_M_bestOf_114 : decode prog_14_method_97_code 114 = .ok (.iload_n 1, 1) := by decide +kernel
theorem d_M_bestOf_115 : decode prog_14_method_97_code 115 = .ok (.iconst (-1), 1) := by decide +kernel
theorem d_M_bestOf_116 : decode prog_14_method_97_code 116 = .ok (.if_icmp .ne 8, 3) := by decide +kernel
theorem d_M_bestOf_119 : decode prog_14_method_97_code 119 = .ok (.iload 4, 2) := by decide +kernel
theorem d_M_bestOf_121 : decode prog_14_method_97_code 121 = .ok (.goto 18, 3) := by decide +kernel
theorem d_M_bestOf_124 : decode prog_14_method_97_code 124 = .ok (.aload_n 0, 1) := by decide +kernel
theorem d_M_bestOf_125 : decode prog_14_method_97_code 125 = .ok (.iload_n 3, 1) := by decide +kernel
theorem d_M_bestOf_126 : decode prog_14_method_97_code 126 = .ok (.aload_n 0, 1) := by decide +kernel
theorem d_M_bestOf_127 : decode prog_14_method_97_code 127 = .ok (.getfield 46, 3) := by decide +kernel
theorem d_M_bestOf_130 : decode prog_14_method_97_code 130 = .ok (.aload_n 0, 1) := by decide +kernel
theorem d_M_bestOf_131 : decode prog_14_method_97_code 131 = .ok (.getfield 242, 3) := by decide +kernel
theorem d_M_bestOf_134 : decode prog_14_method_97_code 134 = .ok (.iaload, 1) := by decide +kernel
theorem d_M_bestOf_135 : decode prog_14_method_97_code 135 = .ok (.iload_n 1, 1) := by decide +kernel
theorem d_M_bestOf_136 : decode prog_14_method_97_code 136 = .ok (.invokevirtual 444, 3) := by decide +kernel
theorem d_M_bestOf_139 : decode prog_14_method_97_code 139 = .ok (.ireturn, 1) := by decide +kernel
noncomputable def Lc_M_bestOf_1 : Xp Bool := o2 (fun x y => decide (x < y)) (vI 5) (cI (D_M_power) [asV Value.int (aI 0 (gR 12 23 (vR 0)) (gI 12 18 (vR 0))), asV Value.int (aI 0 (gR 12 25 (vR 0)) (gI 12 18 (vR 0)))])
noncomputable def Lb_M_bestOf_1 : Sm := sSeq (sIf (cOr (cOr (cNot (o1 (fun x => decide (x ≠ 0)) (cI (mV 12 D_M_takes) [asV Value.ref (vR 0), asV Value.int (vI 5)]))) (cAnd (o1 (fun x => decide (x ≠ 0)) (vI 2)) (cNot (o1 (fun x => decide (x ≠ 0)) (cI (mV 12 D_M_isRest) [asV Value.ref (vR 0)]))))) (cAnd (o1 (fun x => decide (x ≥ 0)) (vI 3)) (o2 (fun x y => decide (x ≤ y)) (cI (mV 12 D_M_takenGain) [asV Value.ref (vR 0)]) (vI 4)))) (sCnt 6) (sSkip)) (sSeq (sSet 3 (asV Value.int (vI 5))) (sSet 4 (asV Value.int (cI (mV 12 D_M_takenGain) [asV Value.ref (vR 0)]))))
noncomputable def Lu_M_bestOf_1 : Sm := sInc 5 (ii 1)
noncomputable def F_M_bestOf : Sm := sSeq (sIf (cAnd (o2 (fun x y => decide (x ≠ y)) (vI 1) (kI (ii (-1)))) (cNot (o1 (fun x => decide (x ≠ 0)) (cI (mV 12 D_M_isGoer) [asV Value.ref (vR 0), asV Value.int (vI 1)])))) (sRet (asV Value.int (kI (ii (-100000))))) (sSkip)) (sSeq (sCall (mV 12 D_M_fillsGains) [asV Value.ref (vR 0)]) (sSeq (sDecl (asV Value.int (kI (ii (-1))))) (sSeq (sDecl (asV Value.int (kI (ii 0)))) (sSeq (sBlk 5 (sSeq (sDecl (asV Value.int (kI (ii 0)))) (sWh (Lc_M_bestOf_1) (Lb_M_bestOf_1) Lu_M_bestOf_1))) (sSeq (sIf (o1 (fun x => decide (x < 0)) (vI 3)) (sRet (asV Value.int (kI (ii (-100000))))) (sSkip)) (sRet (asV Value.int (iX (o2 (fun x y => decide (x = y)) (vI 1) (kI (ii (-1)))) (vI 4) (cI (mV 12 D_M_digitOf) [asV Value.ref (vR 0), asV Value.int (vI 3), asV Value.int (aI 0 (gR 12 23 (vR 0)) (gI 12 18 (vR 0))), asV Value.int (vI 1)])))))))))
theorem mf_M_bestOf : Mf y_M_bestOf prog_14_method_97_code 6 (some .int) 2 := ⟨tw_1922, tw_134, by decide +kernel⟩
noncomputable def D_M_bestOf : Dn := runS [1, 1, 1] F_M_bestOf
theorem ok_M_bestOf : MOK y_M_bestOf prog_14_method_97_code 6 (some .int) 5 0 0 D_M_bestOf := MOK.of (by decide) (by decide) (show SO Y_M_bestOf [(0, 1), (1, 1), (2, 1)] [(0, 1), (1, 1), (2, 1), (3, 1), (4, 1)] 0 140 (([], 0), ([], 0)) F_M_bestOf from
  (s_seq (sl1 := [(0, 1), (1, 1), (2, 1)]) (p1 := 17) (s_if (pt := 13) (pf := 17) (c_and (p1 := 5) (c_icmp_eqF (p1 := 1) (p2 := 2) (tg := 17) (e_iload_n (k0 := 1) d_M_bestOf_0 rfl rfl) (e_iconst d_M_bestOf_1 (by decide)) d_M_bestOf_2 rfl) (c_not (c_if_neT (p1 := 10) (tg := 17) (e_cI (p1 := 7) (a_cons (ι := Value.ref) (k0 := 1) (p1 := 6) (fun _ => rfl) (e_aload_n (k0 := 0) d_M_bestOf_5 rfl rfl) (a_cons (ι := Value.int) (k0 := 1) (p1 := 7) (fun _ => rfl) (e_iload_n (k0 := 1) d_M_bestOf_6 rfl rfl) a_nil)) (k_virt ok_M_isGoer mf_M_isGoer ⟨tw_1715, tw_75⟩ rfl tw_1713 d_M_bestOf_7 (by decide) (by decide) (by decide))) d_M_bestOf_10 rfl))) (s_ret (p1 := 16) (e_ldcw d_M_bestOf_13 tw_1796) rfl d_M_bestOf_16) s_skip) (s_seq (sl1 := [(0, 1), (1, 1), (2, 1)]) (p1 := 21) (s_call (p1 := 18) (a_cons (ι := Value.ref) (k0 := 1) (p1 := 18) (fun _ => rfl) (e_aload_n (k0 := 0) d_M_bestOf_17 rfl rfl) a_nil) (k_virt ok_M_fillsGains mf_M_fillsGains ⟨tw_1901, tw_107⟩ rfl tw_1899 d_M_bestOf_18 (by decide) (by decide) (by decide))) (s_seq (sl1 := [(0, 1), (1, 1), (2, 1), (3, 1)]) (p1 := 23) (s_decl (p1 := 22) (e_iconst d_M_bestOf_21 (by decide)) (t_istore_n d_M_bestOf_22 rfl (by decide)) rfl) (s_seq (sl1 := [(0, 1), (1, 1), (2, 1), (3, 1), (4, 1)]) (p1 := 26) (s_decl (p1 := 24) (e_iconst d_M_bestOf_23 (by decide)) (t_istore d_M_bestOf_24 (by decide)) rfl) (s_seq (sl1 := [(0, 1), (1, 1), (2, 1), (3, 1), (4, 1)]) (p1 := 106) (s_blk (sl1 := [(0, 1), (1, 1), (2, 1), (3, 1), (4, 1), (5, 1)]) (s_seq (sl1 := [(0, 1), (1, 1), (2, 1), (3, 1), (4, 1), (5, 1)]) (p1 := 29) (s_decl (p1 := 27) (e_iconst d_M_bestOf_26 (by decide)) (t_istore d_M_bestOf_27 (by decide)) rfl) (s_for (pt := 55) (pu := 100) (pf := 106) (pg := 0) (c_icmp_geF (p1 := 31) (p2 := 52) (tg := 106) (e_iload (k0 := 5) d_M_bestOf_29 rfl) (e_cI (p1 := 49) (a_cons (ι := Value.int) (k0 := 1) (p1 := 40) (fun _ => rfl) (e_iald (p1 := 35) (p2 := 39) (e_gR (k0 := 23) (p1 := 32) cf_12 (e_aload_n (k0 := 0) d_M_bestOf_31 rfl rfl) (by decide) tw_1383 d_M_bestOf_32) (e_gI (k0 := 18) (p1 := 36) cf_12 (e_aload_n (k0 := 0) d_M_bestOf_35 rfl rfl) (by decide) tw_1378 d_M_bestOf_36) d_M_bestOf_39) (a_cons (ι := Value.int) (k0 := 1) (p1 := 49) (fun _ => rfl) (e_iald (p1 := 44) (p2 := 48) (e_gR (k0 := 25) (p1 := 41) cf_12 (e_aload_n (k0 := 0) d_M_bestOf_40 rfl rfl) (by decide) tw_1385 d_M_bestOf_41) (e_gI (k0 := 18) (p1 := 45) cf_12 (e_aload_n (k0 := 0) d_M_bestOf_44 rfl rfl) (by decide) tw_1378 d_M_bestOf_45) d_M_bestOf_48) a_nil)) (k_stat ok_M_power mf_M_power tw_1881 tw_1880 d_M_bestOf_49 (by decide) (by decide) (by decide))) d_M_bestOf_52 rfl) (s_seq (sl1 := [(0, 1), (1, 1), (2, 1), (3, 1), (4, 1), (5, 1)]) (p1 := 91) (s_if (pt := 100) (pf := 91) (c_or (p1 := 75) (c_or (p1 := 64) (c_not (c_if_eqF (p1 := 61) (tg := 100) (e_cI (p1 := 58) (a_cons (ι := Value.ref) (k0 := 1) (p1 := 56) (fun _ => rfl) (e_aload_n (k0 := 0) d_M_bestOf_55 rfl rfl) (a_cons (ι := Value.int) (k0 := 1) (p1 := 58) (fun _ => rfl) (e_iload (k0 := 5) d_M_bestOf_56 rfl) a_nil)) (k_virt ok_M_takes mf_M_takes ⟨tw_1905, tw_108⟩ rfl tw_1903 d_M_bestOf_58 (by decide) (by decide) (by decide))) d_M_bestOf_61 rfl)) (c_and (p1 := 68) (c_if_eqF (p1 := 65) (tg := 75) (e_iload_n (k0 := 2) d_M_bestOf_64 rfl rfl) d_M_bestOf_65 rfl) (c_not (c_if_eqF (p1 := 72) (tg := 100) (e_cI (p1 := 69) (a_cons (ι := Value.ref) (k0 := 1) (p1 := 69) (fun _ => rfl) (e_aload_n (k0 := 0) d_M_bestOf_68 rfl rfl) a_nil) (k_virt ok_M_isRest mf_M_isRest ⟨tw_1909, tw_109⟩ rfl tw_1907 d_M_bestOf_69 (by decide) (by decide) (by decide))) d_M_bestOf_72 rfl)))) (c_and (p1 := 79) (c_if_ltF (p1 := 76) (tg := 91) (e_iload_n (k0 := 3) d_M_bestOf_75 rfl rfl) d_M_bestOf_76 rfl) (c_gotoT (p1 := 88) (c_icmp_gtF (p1 := 83) (p2 := 85) (tg := 91) (e_cI (p1 := 80) (a_cons (ι := Value.ref) (k0 := 1) (p1 := 80) (fun _ => rfl) (e_aload_n (k0 := 0) d_M_bestOf_79 rfl rfl) a_nil) (k_virt ok_M_takenGain mf_M_takenGain ⟨tw_1925, tw_112⟩ rfl tw_1923 d_M_bestOf_80 (by decide) (by decide) (by decide))) (e_iload (k0 := 4) d_M_bestOf_83 rfl) d_M_bestOf_85 rfl) d_M_bestOf_88 rfl))) (s_cnt rfl) s_skip) (s_seq (sl1 := [(0, 1), (1, 1), (2, 1), (3, 1), (4, 1), (5, 1)]) (p1 := 94) (s_set (k0 := 3) (p1 := 93) (e_iload (k0 := 5) d_M_bestOf_91 rfl) (t_istore_n d_M_bestOf_93 rfl (by decide)) rfl rfl) (s_set (k0 := 4) (p1 := 98) (e_cI (p1 := 95) (a_cons (ι := Value.ref) (k0 := 1) (p1 := 95) (fun _ => rfl) (e_aload_n (k0 := 0) d_M_bestOf_94 rfl rfl) a_nil) (k_virt ok_M_takenGain mf_M_takenGain ⟨tw_1925, tw_112⟩ rfl tw_1923 d_M_bestOf_95 (by decide) (by decide) (by decide))) (t_istore d_M_bestOf_98 (by decide)) rfl rfl))) (s_goto (p1 := 103) (s_inc (k0 := 5) d_M_bestOf_100 rfl rfl (Nat.le_of_ble_eq_true rfl) rfl) d_M_bestOf_103 rfl))) rfl) (s_seq (sl1 := [(0, 1), (1, 1), (2, 1), (3, 1), (4, 1)]) (p1 := 114) (s_if (pt := 110) (pf := 114) (c_if_geF (p1 := 107) (tg := 114) (e_iload_n (k0 := 3) d_M_bestOf_106 rfl rfl) d_M_bestOf_107 rfl) (s_ret (p1 := 113) (e_ldcw d_M_bestOf_110 tw_1796) rfl d_M_bestOf_113) s_skip) (s_ret (p1 := 139) (e_ite (pt := 119) (p1 := 121) (pf := 124) (c_icmp_neF (p1 := 115) (p2 := 116) (tg := 124) (e_iload_n (k0 := 1) d_M_bestOf_114 rfl rfl) (e_iconst d_M_bestOf_115 (by decide)) d_M_bestOf_116 rfl) (e_iload (k0 := 4) d_M_bestOf_119 rfl) d_M_bestOf_121 rfl (e_cI (p1 := 136) (a_cons (ι := Value.ref) (k0 := 1) (p1 := 125) (fun _ => rfl) (e_aload_n (k0 := 0) d_M_bestOf_124 rfl rfl) (a_cons (ι := Value.int) (k0 := 1) (p1 := 126) (fun _ => rfl) (e_iload_n (k0 := 3) d_M_bestOf_125 rfl rfl) (a_cons (ι := Value.int) (k0 := 1) (p1 := 135) (fun _ => rfl) (e_iald (p1 := 130) (p2 := 134) (e_gR (k0 := 23) (p1 := 127) cf_12 (e_aload_n (k0 := 0) d_M_bestOf_126 rfl rfl) (by decide) tw_1383 d_M_bestOf_127) (e_gI (k0 := 18) (p1 := 131) cf_12 (e_aload_n (k0 := 0) d_M_bestOf_130 rfl rfl) (by decide) tw_1378 d_M_bestOf_131) d_M_bestOf_134) (a_cons (ι := Value.int) (k0 := 1) (p1 := 136) (fun _ => rfl) (e_iload_n (k0 := 1) d_M_bestOf_135 rfl rfl) a_nil)))) (k_virt ok_M_digitOf mf_M_digitOf ⟨tw_1885, tw_104⟩ rfl tw_1883 d_M_bestOf_136 (by decide) (by decide) (by decide)))) rfl d_M_bestOf_139))))))))
/-! BlinkerCrossModel.bestRest(I)I -/
abbrev y_M_bestRest : MethodName := ⟨"BlinkerCrossModel", "bestRest", "(I)I"⟩
abbrev Y_M_bestRest : Yt := (prog_14_method_98_code, 2, "BlinkerCrossModel", 6, (some .int), "bestRest")
theorem d_M_bestRest_0 : decode prog_14_method_98_code 0 = .ok (.aload_n 0, 1) := by decide +kernel
theorem d_M_bestRest_1 : decode prog_14_method_98_code 1 = .ok (.iload_n 1, 1) := by decide +kernel
theorem d_M_bestRest_2 : decode prog_14_method_98_code 2 = .ok (.iconst 1, 1) := by decide +kernel
theorem d_M_bestRest_3 : decode prog_14_method_98_code 3 = .ok (.invokevirtual 478, 3) := by decide +kernel
theorem d_M_bestRest_6 : decode prog_14_method_98_code 6 = .ok (.ireturn, 1) := by decide +kernel
noncomputable def F_M_bestRest : Sm := sRet (asV Value.int (cI (mV 12 D_M_bestOf) [asV Value.ref (vR 0), asV Value.int (vI 1), asV Value.int (kI (ii 1))]))
theorem mf_M_bestRest : Mf y_M_bestRest prog_14_method_98_code 2 (some .int) 1 := ⟨tw_1918, tw_134, by decide +kernel⟩
noncomputable def D_M_bestRest : Dn := runS [1, 1] F_M_bestRest
theorem ok_M_bestRest : MOK y_M_bestRest prog_14_method_98_code 2 (some .int) 6 0 0 D_M_bestRest := MOK.of (by decide) (by decide) (show SO Y_M_bestRest [(0, 1), (1, 1)] [(0, 1), (1, 1)] 0 7 (([], 0), ([], 0)) F_M_bestRest from
  (s_ret (p1 := 6) (e_cI (p1 := 3) (a_cons (ι := Value.ref) (k0 := 1) (p1 := 1) (fun _ => rfl) (e_aload_n (k0 := 0) d_M_bestRest_0 rfl rfl) (a_cons (ι := Value.int) (k0 := 1) (p1 := 2) (fun _ => rfl) (e_iload_n (k0 := 1) d_M_bestRest_1 rfl rfl) (a_cons (ι := Value.int) (k0 := 1) (p1 := 3) (fun _ => rfl) (e_iconst d_M_bestRest_2 (by decide)) a_nil))) (k_virt ok_M_bestOf mf_M_bestOf ⟨tw_1921, tw_111⟩ rfl tw_1919 d_M_bestRest_3 (by decide) (by decide) (by decide))) rfl d_M_bestRest_6))
/-! BlinkerCrossModel.bestGiving(I)I -/
abbrev y_M_bestGiving : MethodName := ⟨"BlinkerCrossModel", "bestGiving", "(I)I"⟩
abbrev Y_M_bestGiving : Yt := (prog_14_method_99_code, 2, "BlinkerCrossModel", 6, (some .int), "bestGiving")
theorem d_M_bestGiving_0 : decode prog_14_method_99_code 0 = .ok (.aload_n 0, 1) := by decide +kernel
theorem d_M_bestGiving_1 : decode prog_14_method_99_code 1 = .ok (.iload_n 1, 1) := by decide +kernel
theorem d_M_bestGiving_2 : decode prog_14_method_99_code 2 = .ok (.iconst 0, 1) := by decide +kernel
theorem d_M_bestGiving_3 : decode prog_14_method_99_code 3 = .ok (.invokevirtual 478, 3) := by decide +kernel
theorem d_M_bestGiving_6 : decode prog_14_method_99_code 6 = .ok (.ireturn, 1) := by decide +kernel
noncomputable def F_M_bestGiving : Sm := sRet (asV Value.int (cI (mV 12 D_M_bestOf) [asV Value.ref (vR 0), asV Value.int (vI 1), asV Value.int (kI (ii 0))]))
theorem mf_M_bestGiving : Mf y_M_bestGiving prog_14_method_99_code 2 (some .int) 1 := ⟨tw_1930, tw_134, by decide +kernel⟩
noncomputable def D_M_bestGiving : Dn := runS [1, 1] F_M_bestGiving
theorem ok_M_bestGiving : MOK y_M_bestGiving prog_14_method_99_code 2 (some .int) 6 0 0 D_M_bestGiving := MOK.of (by decide) (by decide) (show SO Y_M_bestGiving [(0, 1), (1, 1)] [(0, 1), (1, 1)] 0 7 (([], 0), ([], 0)) F_M_bestGiving from
  (s_ret (p1 := 6) (e_cI (p1 := 3) (a_cons (ι := Value.ref) (k0 := 1) (p1 := 1) (fun _ => rfl) (e_aload_n (k0 := 0) d_M_bestGiving_0 rfl rfl) (a_cons (ι := Value.int) (k0 := 1) (p1 := 2) (fun _ => rfl) (e_iload_n (k0 := 1) d_M_bestGiving_1 rfl rfl) (a_cons (ι := Value.int) (k0 := 1) (p1 := 3) (fun _ => rfl) (e_iconst d_M_bestGiving_2 (by decide)) a_nil))) (k_virt ok_M_bestOf mf_M_bestOf ⟨tw_1921, tw_111⟩ rfl tw_1919 d_M_bestGiving_3 (by decide) (by decide) (by decide))) rfl d_M_bestGiving_6))
/-! BlinkerCrossModel.changes(I)Z -/
abbrev y_M_changes : MethodName := ⟨"BlinkerCrossModel", "changes", "(I)Z"⟩
abbrev Y_M_changes : Yt := (prog_14_method_100_code, 8, "BlinkerCrossModel", 1, (some .boolean), "changes")
theorem d_M_changes_0 : decode prog_14_method_100_code 0 = .ok (.aload_n 0, 1) := by decide +kernel
theorem d_M_changes_1 : decode prog_14_method_100_code 1 = .ok (.getfield 134, 3) := by decide +kernel
theorem d_M_changes_4 : decode prog_14_method_100_code 4 = .ok (.iload_n 1, 1) := by decide +kernel
theorem d_M_changes_5 : decode prog_14_method_100_code 5 = .ok (.iaload, 1) := by decide +kernel
theorem d_M_changes_6 : decode prog_14_method_100_code 6 = .ok (.istore_n 2, 1) := by decide +kernel
theorem d_M_changes_7 : decode prog_14_method_100_code 7 = .ok (.iload_n 2, 1) := by decide +kernel
theorem d_M_changes_8 : decode prog_14_method_100_code 8 = .ok (.istore_n 3, 1) := by decide +kernel
theorem d_M_changes_9 : decode prog_14_method_100_code 9 = .ok (.aload_n 0, 1) := by decide +kernel
theorem d_M_changes_10 : decode prog_14_method_100_code 10 = .ok (.iload_n 1, 1) := by decide +kernel
theorem d_M_changes_11 : decode prog_14_method_100_code 11 = .ok (.iload_n 2, 1) := by decide +kernel
theorem d_M_changes_12 : decode prog_14_method_100_code 12 = .ok (.aload_n 0, 1) := by decide +kernel
theorem d_M_changes_13 : decode prog_14_method_100_code 13 = .ok (.getfield 137, 3) := by decide +kernel
theorem d_M_changes_16 : decode prog_14_method_100_code 16 = .ok (.iload_n 2, 1) := by decide +kernel
theorem d_M_changes_17 : decode prog_14_method_100_code 17 = .ok (.iaload, 1) := by decide +kernel
theorem d_M_changes_18 : decode prog_14_method_100_code 18 = .ok (.invokevirtual 462, 3) := by decide +kernel
theorem d_M_changes_21 : decode prog_14_method_100_code 21 = .ok (.istore 4, 2) := by decide +kernel
theorem d_M_changes_23 : decode prog_14_method_100_code 23 = .ok (.iconst 0, 1) := by decide +kernel
theorem d_M_changes_24 : decode prog_14_method_100_code 24 = .ok (.istore 5, 2) := by decide +kernel
theorem d_M_changes_26 : decode prog_14_method_100_code 26 = .ok (.iload 5, 2) := by decide +kernel
theorem d_M_changes_28 : decode prog_14_method_100_code 28 = .ok (.aload_n 0, 1) := by decide +kernel
theorem d_M_changes_29 : decode prog_14_method_100_code 29 = .ok (.iload_n 1, 1) := by decide +kernel
theorem d_M_changes_30 : decode prog_14_method_100_code 30 = .ok (.invokevirtual 336, 3) := by decide +kernel
theorem d_M_changes_33 : decode prog_14_method_100_code 33 = .ok (.if_icmp .ge 64, 3) := by decide +kernel
theorem d_M_changes_36 : decode prog_14_method_100_code 36 = .ok (.aload_n 0, 1) := by decide +kernel
theorem d_M_changes_37 : decode prog_14_method_100_code 37 = .ok (.iload_n 1, 1) := by decide +kernel
theorem d_M_changes_38 : decode prog_14_method_100_code 38 = .ok (.iload 5, 2) := by decide +kernel
theorem d_M_changes_40 : decode prog_14_method_100_code 40 = .ok (.invokevirtual 339, 3) := by decide +kernel
theorem d_M_changes_43 : decode prog_14_method_100_code 43 = .ok (.istore 6, 2) := by decide +kernel
theorem d_M_changes_45 : decode prog_14_method_100_code 45 = .ok (.iload 6, 2) := by decide +kernel
theorem d_M_changes_47 : decode prog_14_method_100_code 47 = .ok (.iload_n 2, 1) := by decide +kernel
theorem d_M_changes_48 : decode prog_14_method_100_code 48 = .ok (.if_icmp .ne 8, 3) := by decide +kernel
theorem d_M_changes_51 : decode prog_14_method_100_code 51 = .ok (.iload 4, 2) := by decide +kernel
theorem d_M_changes_53 : decode prog_14_method_100_code 53 = .ok (.goto 19, 3) := by decide +kernel
theorem d_M_changes_56 : decode prog_14_method_100_code 56 = .ok (.aload_n 0, 1) := by decide +kernel
theorem d_M_changes_57 : decode prog_14_method_100_code 57 = .ok (.iload_n 1, 1) := by decide +kernel
theorem d_M_changes_58 : decode prog_14_method_100_code 58 = .ok (.iload 6, 2) := by decide +kernel
theorem d_M_changes_60 : decode prog_14_method_100_code 60 = .ok (.aload_n 0, 1) := by decide +kernel
theorem d_M_changes_61 : decode prog_14_method_100_code 61 = .ok (.getfield 137, 3) := by decide +kernel
theorem d_M_changes_64 : decode prog_14_method_100_code 64 = .ok (.iload 6, 2) := by decide +kernel
theorem d_M_changes_66 : decode prog_14_method_100_code 66 = .ok (.iaload, 1) := by decide +kernel
theorem d_M_changes_67 : decode prog_14_method_100_code 67 = .ok (.iconst 1, 1) := by decide +kernel
theorem d_M_changes_68 : decode prog_14_method_100_code 68 = .ok (.iadd, 1) := by decide +kernel
theorem d_M_changes_69 : decode prog_14_method_100_code 69 = .ok (.invokevirtual 462, 3) := by decide +kernel
theorem d_M_changes_72 : decode prog_14_method_100_code 72 = .ok (.istore 7, 2) := by decide +kernel
theorem d_M_changes_74 : decode prog_14_method_100_code 74 = .ok (.iload 7, 2) := by decide +kernel
theorem d_M_changes_76 : decode prog_14_method_100_code 76 = .ok (.iload 4, 2) := by decide +kernel
theorem d_M_changes_78 : decode prog_14_method_100_code 78 = .ok (.if_icmp .gt 6, 3) := by decide +kernel
theorem d_M_changes_81 : decode prog_14_method_100_code 81 = .ok (.goto 10, 3) := by decide +kernel
theorem d_M_changes_84 : decode prog_14_method_100_code 84 = .ok (.iload 6, 2) := by decide +kernel
theorem d_M_changes_86 : decode prog_14_method_100_code 86 = .ok (.istore_n 3, 1) := by decide +kernel
theorem d_M_changes_87 : decode prog_14_method_100_code 87 = .ok (.iload 7, 2) := by decide +kernel
theorem d_M_changes_89 : decode prog_14_method_100_code 89 = .ok (.istore 4, 2) := by decide +kernel
theorem d_M_changes_91 : decode prog_14_method_100_code 91 = .ok (.iinc 5 1, 3) := by decide +kernel
theorem d_M_changes_94 : decode prog_14_method_100_code 94 = .ok (.goto (-68), 3) := by decide +kernel
theorem d_M_changes_97 : decode prog_14_method_100_code 97 = .ok (.aload_n 0, 1) := by decide +kernel
theorem d_M_changes_98 : decode prog_14_method_100_code 98 = .ok (.getfield 137, 3) := by decide +kernel
theorem d_M_changes_101 : decode prog_14_method_100_code 101 = .ok (.iload_n 2, 1) := by decide +kernel
theorem d_M_changes_102 : decode prog_14_method_100_code 102 = .ok (.dup2, 1) := by decide +kernel
theorem d_M_changes_103 : decode prog_14_method_100_code 103 = .ok (.iaload, 1) := by decide +kernel
theorem d_M_changes_104 : decode prog_14_method_100_code 104 = .ok (.iconst 1, 1) := by decide +kernel
theorem d_M_changes_105 : decode prog_14_method_100_code 105 = .ok (.isub, 1) := by decide +kernel
theorem d_M_changes_106 : decode prog_14_method_100_code 106 = .ok (.iastore, 1) := by decide +kernel
theorem d_M_changes_107 : decode prog_14_method_100_code 107 = .ok (.aload_n 0, 1) := by decide +kernel
theorem d_M_changes_108 : decode prog_14_method_100_code 108 = .ok (.getfield 137, 3) := by decide +kernel
theorem d_M_changes_111 : decode prog_14_method_100_code 111 = .ok (.iload_n 3, 1) := by decide +kernel
theorem d_M_changes_112 : decode prog_14_method_100_code 112 = .ok (.dup2, 1) := by decide +kernel
theorem d_M_changes_113 : decode prog_14_method_100_code 113 = .ok (.iaload, 1) := by decide +kernel
theorem d_M_changes_114 : decode prog_14_method_100_code 114 = .ok (.iconst 1, 1) := by decide +kernel
theorem d_M_changes_115 : decode prog_14_method_100_code 115 = .ok (.iadd, 1) := by decide +kernel
theorem d_M_changes_116 : decode prog_14_method_100_code 116 = .ok (.iastore, 1) := by decide +kernel
theorem d_M_changes_117 : decode prog_14_method_100_code 117 = .ok (.aload_n 0, 1) := by decide +kernel
theorem d_M_changes_118 : decode prog_14_method_100_code 118 = .ok (.getfield 134, 3) := by decide +kernel
theorem d_M_changes_121 : decode prog_14_method_100_code 121 = .ok (.iload_n 1, 1) := by decide +kernel
theorem d_M_changes_122 : decode prog_14_method_100_code 122 = .ok (.iload_n 3, 1) := by decide +kernel
theorem d_M_changes_123 : decode prog_14_method_100_code 123 = .ok (.iastore, 1) := by decide +kernel
theorem d_M_changes_124 : decode prog_14_method_100_code 124 = .ok (.iload_n 3, 1) := by decide +kernel
theorem d_M_changes_125 : decode prog_14_method_100_code 125 = .ok (.iload_n 2, 1) := by decide +kernel
theorem d_M_changes_126 : decode prog_14_method_100_code 126 = .ok (.if_icmp .eq 7, 3) := by decide +kernel
theorem d_M_changes_129 : decode prog_14_method_100_code 129 = .ok (.iconst 1, 1) := by decide +kernel
theorem d_M_changes_130 : decode prog_14_method_100_code 130 = .ok (.goto 4, 3) := by decide +kernel
theorem d_M_changes_133 : decode prog_14_method_100_code 133 = .ok (.iconst 0, 1) := by decide +kernel
theorem d_M_changes_134 : decode prog_14_method_100_code 134 = .ok (.ireturn, 1) := by decide +kernel
noncomputable def Lc_M_changes_1 : Xp Bool := o2 (fun x y => decide (x < y)) (vI 5) (cI (mV 12 D_M_seesMany) [asV Value.ref (vR 0), asV Value.int (vI 1)])
noncomputable def Lb_M_changes_1 : Sm := sBlk 6 (sSeq (sDecl (asV Value.int (cI (mV 12 D_M_seenAt) [asV Value.ref (vR 0), asV Value.int (vI 1), asV Value.int (vI 5)]))) (sSeq (sDecl (asV Value.int (iX (o2 (fun x y => decide (x = y)) (vI 6) (vI 2)) (vI 4) (cI (mV 12 D_M_gainAt) [asV Value.ref (vR 0), asV Value.int (vI 1), asV Value.int (vI 6), asV Value.int (o2 (fun x y => x + y) (aI 0 (gR 12 64 (vR 0)) (vI 6)) (kI (ii 1)))])))) (sSeq (sIf (o2 (fun x y => decide (x ≤ y)) (vI 7) (vI 4)) (sCnt 6) (sSkip)) (sSeq (sSet 3 (asV Value.int (vI 6))) (sSet 4 (asV Value.int (vI 7)))))))
noncomputable def Lu_M_changes_1 : Sm := sInc 5 (ii 1)
noncomputable def F_M_changes : Sm := sSeq (sDecl (asV Value.int (aI 0 (gR 12 63 (vR 0)) (vI 1)))) (sSeq (sDecl (asV Value.int (vI 2))) (sSeq (sDecl (asV Value.int (cI (mV 12 D_M_gainAt) [asV Value.ref (vR 0), asV Value.int (vI 1), asV Value.int (vI 2), asV Value.int (aI 0 (gR 12 64 (vR 0)) (vI 2))]))) (sSeq (sBlk 5 (sSeq (sDecl (asV Value.int (kI (ii 0)))) (sWh (Lc_M_changes_1) (Lb_M_changes_1) Lu_M_changes_1))) (sSeq (sAop 0 (gR 12 64 (vR 0)) (vI 2) (fun x y => x - y) (kI (ii 1))) (sSeq (sAop 0 (gR 12 64 (vR 0)) (vI 3) (fun x y => x + y) (kI (ii 1))) (sSeq (sAst 0 (gR 12 63 (vR 0)) (vI 1) (vI 3)) (sRetZ (bX (o2 (fun x y => decide (x ≠ y)) (vI 3) (vI 2))))))))))
theorem mf_M_changes : Mf y_M_changes prog_14_method_100_code 8 (some .boolean) 1 := ⟨tw_1938, tw_134, by decide +kernel⟩
noncomputable def D_M_changes : Dn := runS [1, 1] F_M_changes
theorem ok_M_changes : MOK y_M_changes prog_14_method_100_code 8 (some .boolean) 1 0 0 D_M_changes := MOK.of (by decide) (by decide) (show SO Y_M_changes [(0, 1), (1, 1)] [(0, 1), (1, 1), (2, 1), (3, 1), (4, 1)] 0 135 (([], 0), ([], 0)) F_M_changes from
  (s_seq (sl1 := [(0, 1), (1, 1), (2, 1)]) (p1 := 7) (s_decl (p1 := 6) (e_iald (p1 := 4) (p2 := 5) (e_gR (k0 := 63) (p1 := 1) cf_12 (e_aload_n (k0 := 0) d_M_changes_0 rfl rfl) (by decide) tw_1423 d_M_changes_1) (e_iload_n (k0 := 1) d_M_changes_4 rfl rfl) d_M_changes_5) (t_istore_n d_M_changes_6 rfl (by decide)) rfl) (s_seq (sl1 := [(0, 1), (1, 1), (2, 1), (3, 1)]) (p1 := 9) (s_decl (p1 := 8) (e_iload_n (k0 := 2) d_M_changes_7 rfl rfl) (t_istore_n d_M_changes_8 rfl (by decide)) rfl) (s_seq (sl1 := [(0, 1), (1, 1), (2, 1), (3, 1), (4, 1)]) (p1 := 23) (s_decl (p1 := 21) (e_cI (p1 := 18) (a_cons (ι := Value.ref) (k0 := 1) (p1 := 10) (fun _ => rfl) (e_aload_n (k0 := 0) d_M_changes_9 rfl rfl) (a_cons (ι := Value.int) (k0 := 1) (p1 := 11) (fun _ => rfl) (e_iload_n (k0 := 1) d_M_changes_10 rfl rfl) (a_cons (ι := Value.int) (k0 := 1) (p1 := 12) (fun _ => rfl) (e_iload_n (k0 := 2) d_M_changes_11 rfl rfl) (a_cons (ι := Value.int) (k0 := 1) (p1 := 18) (fun _ => rfl) (e_iald (p1 := 16) (p2 := 17) (e_gR (k0 := 64) (p1 := 13) cf_12 (e_aload_n (k0 := 0) d_M_changes_12 rfl rfl) (by decide) tw_1424 d_M_changes_13) (e_iload_n (k0 := 2) d_M_changes_16 rfl rfl) d_M_changes_17) a_nil)))) (k_virt ok_M_gainAt mf_M_gainAt ⟨tw_1913, tw_110⟩ rfl tw_1911 d_M_changes_18 (by decide) (by decide) (by decide))) (t_istore d_M_changes_21 (by decide)) rfl) (s_seq (sl1 := [(0, 1), (1, 1), (2, 1), (3, 1), (4, 1)]) (p1 := 97) (s_blk (sl1 := [(0, 1), (1, 1), (2, 1), (3, 1), (4, 1), (5, 1)]) (s_seq (sl1 := [(0, 1), (1, 1), (2, 1), (3, 1), (4, 1), (5, 1)]) (p1 := 26) (s_decl (p1 := 24) (e_iconst d_M_changes_23 (by decide)) (t_istore d_M_changes_24 (by decide)) rfl) (s_for (pt := 36) (pu := 91) (pf := 97) (pg := 0) (c_icmp_geF (p1 := 28) (p2 := 33) (tg := 97) (e_iload (k0 := 5) d_M_changes_26 rfl) (e_cI (p1 := 30) (a_cons (ι := Value.ref) (k0 := 1) (p1 := 29) (fun _ => rfl) (e_aload_n (k0 := 0) d_M_changes_28 rfl rfl) (a_cons (ι := Value.int) (k0 := 1) (p1 := 30) (fun _ => rfl) (e_iload_n (k0 := 1) d_M_changes_29 rfl rfl) a_nil)) (k_virt ok_M_seesMany mf_M_seesMany ⟨tw_1723, tw_77⟩ rfl tw_1721 d_M_changes_30 (by decide) (by decide) (by decide))) d_M_changes_33 rfl) (s_blk (sl1 := [(0, 1), (1, 1), (2, 1), (3, 1), (4, 1), (5, 1), (6, 1), (7, 1)]) (s_seq (sl1 := [(0, 1), (1, 1), (2, 1), (3, 1), (4, 1), (5, 1), (6, 1)]) (p1 := 45) (s_decl (p1 := 43) (e_cI (p1 := 40) (a_cons (ι := Value.ref) (k0 := 1) (p1 := 37) (fun _ => rfl) (e_aload_n (k0 := 0) d_M_changes_36 rfl rfl) (a_cons (ι := Value.int) (k0 := 1) (p1 := 38) (fun _ => rfl) (e_iload_n (k0 := 1) d_M_changes_37 rfl rfl) (a_cons (ι := Value.int) (k0 := 1) (p1 := 40) (fun _ => rfl) (e_iload (k0 := 5) d_M_changes_38 rfl) a_nil))) (k_virt ok_M_seenAt mf_M_seenAt ⟨tw_1727, tw_78⟩ rfl tw_1725 d_M_changes_40 (by decide) (by decide) (by decide))) (t_istore d_M_changes_43 (by decide)) rfl) (s_seq (sl1 := [(0, 1), (1, 1), (2, 1), (3, 1), (4, 1), (5, 1), (6, 1), (7, 1)]) (p1 := 74) (s_decl (p1 := 72) (e_ite (pt := 51) (p1 := 53) (pf := 56) (c_icmp_neF (p1 := 47) (p2 := 48) (tg := 56) (e_iload (k0 := 6) d_M_changes_45 rfl) (e_iload_n (k0 := 2) d_M_changes_47 rfl rfl) d_M_changes_48 rfl) (e_iload (k0 := 4) d_M_changes_51 rfl) d_M_changes_53 rfl (e_cI (p1 := 69) (a_cons (ι := Value.ref) (k0 := 1) (p1 := 57) (fun _ => rfl) (e_aload_n (k0 := 0) d_M_changes_56 rfl rfl) (a_cons (ι := Value.int) (k0 := 1) (p1 := 58) (fun _ => rfl) (e_iload_n (k0 := 1) d_M_changes_57 rfl rfl) (a_cons (ι := Value.int) (k0 := 1) (p1 := 60) (fun _ => rfl) (e_iload (k0 := 6) d_M_changes_58 rfl) (a_cons (ι := Value.int) (k0 := 1) (p1 := 69) (fun _ => rfl) (e_iadd (p1 := 67) (p2 := 68) (e_iald (p1 := 64) (p2 := 66) (e_gR (k0 := 64) (p1 := 61) cf_12 (e_aload_n (k0 := 0) d_M_changes_60 rfl rfl) (by decide) tw_1424 d_M_changes_61) (e_iload (k0 := 6) d_M_changes_64 rfl) d_M_changes_66) (e_iconst d_M_changes_67 (by decide)) d_M_changes_68) a_nil)))) (k_virt ok_M_gainAt mf_M_gainAt ⟨tw_1913, tw_110⟩ rfl tw_1911 d_M_changes_69 (by decide) (by decide) (by decide)))) (t_istore d_M_changes_72 (by decide)) rfl) (s_seq (sl1 := [(0, 1), (1, 1), (2, 1), (3, 1), (4, 1), (5, 1), (6, 1), (7, 1)]) (p1 := 84) (s_if (pt := 81) (pf := 84) (c_icmp_gtF (p1 := 76) (p2 := 78) (tg := 84) (e_iload (k0 := 7) d_M_changes_74 rfl) (e_iload (k0 := 4) d_M_changes_76 rfl) d_M_changes_78 rfl) (s_ahead (p2 := 91) d_M_changes_81 rfl (s_cnt rfl)) s_skip) (s_seq (sl1 := [(0, 1), (1, 1), (2, 1), (3, 1), (4, 1), (5, 1), (6, 1), (7, 1)]) (p1 := 87) (s_set (k0 := 3) (p1 := 86) (e_iload (k0 := 6) d_M_changes_84 rfl) (t_istore_n d_M_changes_86 rfl (by decide)) rfl rfl) (s_set (k0 := 4) (p1 := 89) (e_iload (k0 := 7) d_M_changes_87 rfl) (t_istore d_M_changes_89 (by decide)) rfl rfl))))) rfl) (s_goto (p1 := 94) (s_inc (k0 := 5) d_M_changes_91 rfl rfl (Nat.le_of_ble_eq_true rfl) rfl) d_M_changes_94 rfl))) rfl) (s_seq (sl1 := [(0, 1), (1, 1), (2, 1), (3, 1), (4, 1)]) (p1 := 107) (s_aop (p1 := 101) (p2 := 102) (p3 := 105) (e_gR (k0 := 64) (p1 := 98) cf_12 (e_aload_n (k0 := 0) d_M_changes_97 rfl rfl) (by decide) tw_1424 d_M_changes_98) (e_iload_n (k0 := 2) d_M_changes_101 rfl rfl) d_M_changes_102 (ad_i d_M_changes_103) (e_iconst d_M_changes_104 (by decide)) (op_isub d_M_changes_105) (as_i d_M_changes_106)) (s_seq (sl1 := [(0, 1), (1, 1), (2, 1), (3, 1), (4, 1)]) (p1 := 117) (s_aop (p1 := 111) (p2 := 112) (p3 := 115) (e_gR (k0 := 64) (p1 := 108) cf_12 (e_aload_n (k0 := 0) d_M_changes_107 rfl rfl) (by decide) tw_1424 d_M_changes_108) (e_iload_n (k0 := 3) d_M_changes_111 rfl rfl) d_M_changes_112 (ad_i d_M_changes_113) (e_iconst d_M_changes_114 (by decide)) (op_iadd d_M_changes_115) (as_i d_M_changes_116)) (s_seq (sl1 := [(0, 1), (1, 1), (2, 1), (3, 1), (4, 1)]) (p1 := 124) (s_ast (p1 := 121) (p2 := 122) (p3 := 123) (e_gR (k0 := 63) (p1 := 118) cf_12 (e_aload_n (k0 := 0) d_M_changes_117 rfl rfl) (by decide) tw_1423 d_M_changes_118) (e_iload_n (k0 := 1) d_M_changes_121 rfl rfl) (e_iload_n (k0 := 3) d_M_changes_122 rfl rfl) (as_i d_M_changes_123)) (s_retZ (p1 := 134) (e_bool (pt := 129) (pf := 133) (c_icmp_eqF (p1 := 125) (p2 := 126) (tg := 133) (e_iload_n (k0 := 3) d_M_changes_124 rfl rfl) (e_iload_n (k0 := 2) d_M_changes_125 rfl rfl) d_M_changes_126 rfl) d_M_changes_129 d_M_changes_130 rfl d_M_changes_133 rfl) rfl d_M_changes_134)))))))))
/-! BlinkerCrossModel.settles()I -/
abbrev y_M_settles : MethodName := ⟨"BlinkerCrossModel", "settles", "()I"⟩
abbrev Y_M_settles : Yt := (prog_14_method_101_code, 4, "BlinkerCrossModel", 5, (some .int), "settles")
theorem d_M_settles_0 : decode prog_14_method_101_code 0 = .ok (.aload_n 0, 1) := by decide +kernel
theorem d_M_settles_1 : decode prog_14_method_101_code 1 = .ok (.invokevirtual 465, 3) := by decide +kernel
theorem d_M_settles_4 : decode prog_14_method_101_code 4 = .ok (.iconst 0, 1) := by decide +kernel
theorem d_M_settles_5 : decode prog_14_method_101_code 5 = .ok (.istore_n 1, 1) := by decide +kernel
theorem d_M_settles_6 : decode prog_14_method_101_code 6 = .ok (.iload_n 1, 1) := by decide +kernel
theorem d_M_settles_7 : decode prog_14_method_101_code 7 = .ok (.bipush 6, 2) := by decide +kernel
theorem d_M_settles_9 : decode prog_14_method_101_code 9 = .ok (.if_icmp .ge 20, 3) := by decide +kernel
theorem d_M_settles_12 : decode prog_14_method_101_code 12 = .ok (.aload_n 0, 1) := by decide +kernel
theorem d_M_settles_13 : decode prog_14_method_101_code 13 = .ok (.getfield 137, 3) := by decide +kernel
theorem d_M_settles_16 : decode prog_14_method_101_code 16 = .ok (.iload_n 1, 1) := by decide +kernel
theorem d_M_settles_17 : decode prog_14_method_101_code 17 = .ok (.aload_n 0, 1) := by decide +kernel
theorem d_M_settles_18 : decode prog_14_method_101_code 18 = .ok (.iload_n 1, 1) := by decide +kernel
theorem d_M_settles_19 : decode prog_14_method_101_code 19 = .ok (.invokevirtual 363, 3) := by decide +kernel
theorem d_M_settles_22 : decode prog_14_method_101_code 22 = .ok (.iastore, 1) := by decide +kernel
theorem d_M_settles_23 : decode prog_14_method_101_code 23 = .ok (.iinc 1 1, 3) := by decide +kernel
theorem d_M_settles_26 : decode prog_14_method_101_code 26 = .ok (.goto (-20), 3) := by decide +kernel
theorem d_M_settles_29 : decode prog_14_method_101_code 29 = .ok (.iconst 0, 1) := by decide +kernel
theorem d_M_settles_30 : decode prog_14_method_101_code 30 = .ok (.istore_n 1, 1) := by decide +kernel
theorem d_M_settles_31 : decode prog_14_method_101_code 31 = .ok (.iload_n 1, 1) := by decide +kernel
theorem d_M_settles_32 : decode prog_14_method_101_code 32 = .ok (.aload_n 0, 1) := by decide +kernel
theorem d_M_settles_33 : decode prog_14_method_101_code 33 = .ok (.getfield 52, 3) := by decide +kernel
theorem d_M_settles_36 : decode prog_14_method_101_code 36 = .ok (.aload_n 0, 1) := by decide +kernel
theorem d_M_settles_37 : decode prog_14_method_101_code 37 = .ok (.getfield 242, 3) := by decide +kernel
theorem d_M_settles_40 : decode prog_14_method_101_code 40 = .ok (.iaload, 1) := by decide +kernel
theorem d_M_settles_41 : decode prog_14_method_101_code 41 = .ok (.if_icmp .ge 21, 3) := by decide +kernel
theorem d_M_settles_44 : decode prog_14_method_101_code 44 = .ok (.aload_n 0, 1) := by decide +kernel
theorem d_M_settles_45 : decode prog_14_method_101_code 45 = .ok (.getfield 134, 3) := by decide +kernel
theorem d_M_settles_48 : decode prog_14_method_101_code 48 = .ok (.iload_n 1, 1) := by decide +kernel
theorem d_M_settles_49 : decode prog_14_method_101_code 49 = .ok (.aload_n 0, 1) := by decide +kernel
theorem d_M_settles_50 : decode prog_14_method_101_code 50 = .ok (.getfield 113, 3) := by decide +kernel
theorem d_M_settles_53 : decode prog_14_method_101_code 53 = .ok (.iload_n 1, 1) := by decide +kernel
theorem d_M_settles_54 : decode prog_14_method_101_code 54 = .ok (.iaload, 1) := by decide +kernel
theorem d_M_settles_55 : decode prog_14_method_101_code 55 = .ok (.iastore, 1) := by decide +kernel
theorem d_M_settles_56 : decode prog_14_method_101_code 56 = .ok (.iinc 1 1, 3) := by decide +kernel
theorem d_M_settles_59 : decode prog_14_method_101_code 59 = .ok (.goto (-28), 3) := by decide +kernel
theorem d_M_settles_62 : decode prog_14_method_101_code 62 = .ok (.iconst 0, 1) := by decide +kernel
theorem d_M_settles_63 : decode prog_14_method_101_code 63 = .ok (.istore_n 1, 1) := by decide +kernel
theorem d_M_settles_64 : decode prog_14_method_101_code 64 = .ok (.iload_n 1, 1) := by decide +kernel
theorem d_M_settles_65 : decode prog_14_method_101_code 65 = .ok (.bipush 20, 2) := by decide +kernel
theorem d_M_settles_67 : decode prog_14_method_101_code 67 = .ok (.if_icmp .gt 48, 3) := by decide +kernel
theorem d_M_settles_70 : decode prog_14_method_101_code 70 = .ok (.iconst 0, 1) := by decide +kernel
theorem d_M_settles_71 : decode prog_14_method_101_code 71 = .ok (.istore_n 2, 1) := by decide +kernel
theorem d_M_settles_72 : decode prog_14_method_101_code 72 = .ok (.iconst 0, 1) := by decide +kernel
theorem d_M_settles_73 : decode prog_14_method_101_code 73 = .ok (.istore_n 3, 1) := by decide +kernel
theorem d_M_settles_74 : decode prog_14_method_101_code 74 = .ok (.iload_n 3, 1) := by decide +kernel
theorem d_M_settles_75 : decode prog_14_method_101_code 75 = .ok (.aload_n 0, 1) := by decide +kernel
theorem d_M_settles_76 : decode prog_14_method_101_code 76 = .ok (.getfield 52, 3) := by decide +kernel
theorem d_M_settles_79 : decode prog_14_method_101_code 79 = .ok (.aload_n 0, 1) := by decide +kernel
theorem d_M_settles_80 : decode prog_14_method_101_code 80 = .ok (.getfield 242, 3) := by decide +kernel
theorem d_M_settles_83 : decode prog_14_method_101_code 83 = .ok (.iaload, 1) := by decide +kernel
theorem d_M_settles_84 : decode prog_14_method_101_code 84 = .ok (.if_icmp .ge 19, 3) := by decide +kernel
theorem d_M_settles_87 : decode prog_14_method_101_code 87 = .ok (.aload_n 0, 1) := by decide +kernel
theorem d_M_settles_88 : decode prog_14_method_101_code 88 = .ok (.iload_n 3, 1) := by decide +kernel
theorem d_M_settles_89 : decode prog_14_method_101_code 89 = .ok (.invokevirtual 482, 3) := by decide +kernel
theorem d_M_settles_92 : decode prog_14_method_101_code 92 = .ok (.ifCond .eq 5, 3) := by decide +kernel
theorem d_M_settles_95 : decode prog_14_method_101_code 95 = .ok (.iconst 1, 1) := by decide +kernel
theorem d_M_settles_96 : decode prog_14_method_101_code 96 = .ok (.istore_n 2, 1) := by decide +kernel
theorem d_M_settles_97 : decode prog_14_method_101_code 97 = .ok (.iinc 3 1, 3) := by decide +kernel
theorem d_M_settles_100 : decode prog_14_method_101_code 100 = .ok (.goto (-26), 3) := by decide +kernel
theorem d_M_settles_103 : decode prog_14_method_101_code 103 = .ok (.iload_n 2, 1) := by decide +kernel
theorem d_M_settles_104 : decode prog_14_method_101_code 104 = .ok (.ifCond .ne 5, 3) := by decide +kernel
theorem d_M_settles_107 : decode prog_14_method_101_code 107 = .ok (.iload_n 1, 1) := by decide +kernel
theorem d_M_settles_108 : decode prog_14_method_101_code 108 = .ok (.ireturn, 1) := by decide +kernel
theorem d_M_settles_109 : decode prog_14_method_101_code 109 = .ok (.iinc 1 1, 3) := by decide +kernel
theorem d_M_settles_112 : decode prog_14_method_101_code 112 = .ok (.goto (-48), 3) := by decide +kernel
theorem d_M_settles_115 : decode prog_14_method_101_code 115 = .ok (.bipush (-2), 2) := by decide +kernel
theorem d_M_settles_117 : decode prog_14_method_101_code 117 = .ok (.ireturn, 1) := by decide +kernel
noncomputable def Lc_M_settles_1 : Xp Bool := o2 (fun x y => decide (x < y)) (vI 1) (kI (ii 6))
noncomputable def Lb_M_settles_1 : Sm := sAst 0 (gR 12 64 (vR 0)) (vI 1) (cI (mV 12 D_M_choosing) [asV Value.ref (vR 0), asV Value.int (vI 1)])
noncomputable def Lu_M_settles_1 : Sm := sInc 1 (ii 1)
noncomputable def Lc_M_settles_2 : Xp Bool := o2 (fun x y => decide (x < y)) (vI 1) (aI 0 (gR 12 25 (vR 0)) (gI 12 18 (vR 0)))
noncomputable def Lb_M_settles_2 : Sm := sAst 0 (gR 12 63 (vR 0)) (vI 1) (aI 0 (gR 12 52 (vR 0)) (vI 1))
noncomputable def Lu_M_settles_2 : Sm := sInc 1 (ii 1)
noncomputable def Lc_M_settles_3 : Xp Bool := o2 (fun x y => decide (x < y)) (vI 3) (aI 0 (gR 12 25 (vR 0)) (gI 12 18 (vR 0)))
noncomputable def Lb_M_settles_3 : Sm := sIf (o1 (fun x => decide (x ≠ 0)) (cI (mV 12 D_M_changes) [asV Value.ref (vR 0), asV Value.int (vI 3)])) (sSet 2 (asV Value.int (kI (ii 1)))) (sSkip)
noncomputable def Lu_M_settles_3 : Sm := sInc 3 (ii 1)
noncomputable def Lc_M_settles_4 : Xp Bool := o2 (fun x y => decide (x ≤ y)) (vI 1) (kI (ii 20))
noncomputable def Lb_M_settles_4 : Sm := sBlk 2 (sSeq (sDecl (asV Value.int (kI (ii 0)))) (sSeq (sBlk 3 (sSeq (sDecl (asV Value.int (kI (ii 0)))) (sWh (Lc_M_settles_3) (Lb_M_settles_3) Lu_M_settles_3))) (sIf (cNot (o1 (fun x => decide (x ≠ 0)) (vI 2))) (sRet (asV Value.int (vI 1))) (sSkip))))
noncomputable def Lu_M_settles_4 : Sm := sInc 1 (ii 1)
noncomputable def F_M_settles : Sm := sSeq (sCall (mV 12 D_M_fillsGains) [asV Value.ref (vR 0)]) (sSeq (sBlk 1 (sSeq (sDecl (asV Value.int (kI (ii 0)))) (sWh (Lc_M_settles_1) (Lb_M_settles_1) Lu_M_settles_1))) (sSeq (sBlk 1 (sSeq (sDecl (asV Value.int (kI (ii 0)))) (sWh (Lc_M_settles_2) (Lb_M_settles_2) Lu_M_settles_2))) (sSeq (sBlk 1 (sSeq (sDecl (asV Value.int (kI (ii 0)))) (sWh (Lc_M_settles_4) (Lb_M_settles_4) Lu_M_settles_4))) (sRet (asV Value.int (kI (ii (-2))))))))
theorem mf_M_settles : Mf y_M_settles prog_14_method_101_code 4 (some .int) 0 := ⟨tw_1934, tw_134, by decide +kernel⟩
noncomputable def D_M_settles : Dn := runS [1] F_M_settles
theorem ok_M_settles : MOK y_M_settles prog_14_method_101_code 4 (some .int) 5 0 0 D_M_settles := MOK.of (by decide) (by decide) (show SO Y_M_settles [(0, 1)] [(0, 1)] 0 118 (([], 0), ([], 0)) F_M_settles from
  (s_seq (sl1 := [(0, 1)]) (p1 := 4) (s_call (p1 := 1) (a_cons (ι := Value.ref) (k0 := 1) (p1 := 1) (fun _ => rfl) (e_aload_n (k0 := 0) d_M_settles_0 rfl rfl) a_nil) (k_virt ok_M_fillsGains mf_M_fillsGains ⟨tw_1901, tw_107⟩ rfl tw_1899 d_M_settles_1 (by decide) (by decide) (by decide))) (s_seq (sl1 := [(0, 1)]) (p1 := 29) (s_blk (sl1 := [(0, 1), (1, 1)]) (s_seq (sl1 := [(0, 1), (1, 1)]) (p1 := 6) (s_decl (p1 := 5) (e_iconst d_M_settles_4 (by decide)) (t_istore_n d_M_settles_5 rfl (by decide)) rfl) (s_for (pt := 12) (pu := 23) (pf := 29) (pg := 0) (c_icmp_geF (p1 := 7) (p2 := 9) (tg := 29) (e_iload_n (k0 := 1) d_M_settles_6 rfl rfl) (e_bipush d_M_settles_7 (by decide)) d_M_settles_9 rfl) (s_ast (p1 := 16) (p2 := 17) (p3 := 22) (e_gR (k0 := 64) (p1 := 13) cf_12 (e_aload_n (k0 := 0) d_M_settles_12 rfl rfl) (by decide) tw_1424 d_M_settles_13) (e_iload_n (k0 := 1) d_M_settles_16 rfl rfl) (e_cI (p1 := 19) (a_cons (ι := Value.ref) (k0 := 1) (p1 := 18) (fun _ => rfl) (e_aload_n (k0 := 0) d_M_settles_17 rfl rfl) (a_cons (ι := Value.int) (k0 := 1) (p1 := 19) (fun _ => rfl) (e_iload_n (k0 := 1) d_M_settles_18 rfl rfl) a_nil)) (k_virt ok_M_choosing mf_M_choosing ⟨tw_1735, tw_80⟩ rfl tw_1733 d_M_settles_19 (by decide) (by decide) (by decide))) (as_i d_M_settles_22)) (s_goto (p1 := 26) (s_inc (k0 := 1) d_M_settles_23 rfl rfl (Nat.le_of_ble_eq_true rfl) rfl) d_M_settles_26 rfl))) rfl) (s_seq (sl1 := [(0, 1)]) (p1 := 62) (s_blk (sl1 := [(0, 1), (1, 1)]) (s_seq (sl1 := [(0, 1), (1, 1)]) (p1 := 31) (s_decl (p1 := 30) (e_iconst d_M_settles_29 (by decide)) (t_istore_n d_M_settles_30 rfl (by decide)) rfl) (s_for (pt := 44) (pu := 56) (pf := 62) (pg := 0) (c_icmp_geF (p1 := 32) (p2 := 41) (tg := 62) (e_iload_n (k0 := 1) d_M_settles_31 rfl rfl) (e_iald (p1 := 36) (p2 := 40) (e_gR (k0 := 25) (p1 := 33) cf_12 (e_aload_n (k0 := 0) d_M_settles_32 rfl rfl) (by decide) tw_1385 d_M_settles_33) (e_gI (k0 := 18) (p1 := 37) cf_12 (e_aload_n (k0 := 0) d_M_settles_36 rfl rfl) (by decide) tw_1378 d_M_settles_37) d_M_settles_40) d_M_settles_41 rfl) (s_ast (p1 := 48) (p2 := 49) (p3 := 55) (e_gR (k0 := 63) (p1 := 45) cf_12 (e_aload_n (k0 := 0) d_M_settles_44 rfl rfl) (by decide) tw_1423 d_M_settles_45) (e_iload_n (k0 := 1) d_M_settles_48 rfl rfl) (e_iald (p1 := 53) (p2 := 54) (e_gR (k0 := 52) (p1 := 50) cf_12 (e_aload_n (k0 := 0) d_M_settles_49 rfl rfl) (by decide) tw_1412 d_M_settles_50) (e_iload_n (k0 := 1) d_M_settles_53 rfl rfl) d_M_settles_54) (as_i d_M_settles_55)) (s_goto (p1 := 59) (s_inc (k0 := 1) d_M_settles_56 rfl rfl (Nat.le_of_ble_eq_true rfl) rfl) d_M_settles_59 rfl))) rfl) (s_seq (sl1 := [(0, 1)]) (p1 := 115) (s_blk (sl1 := [(0, 1), (1, 1)]) (s_seq (sl1 := [(0, 1), (1, 1)]) (p1 := 64) (s_decl (p1 := 63) (e_iconst d_M_settles_62 (by decide)) (t_istore_n d_M_settles_63 rfl (by decide)) rfl) (s_for (pt := 70) (pu := 109) (pf := 115) (pg := 0) (c_icmp_gtF (p1 := 65) (p2 := 67) (tg := 115) (e_iload_n (k0 := 1) d_M_settles_64 rfl rfl) (e_bipush d_M_settles_65 (by decide)) d_M_settles_67 rfl) (s_blk (sl1 := [(0, 1), (1, 1), (2, 1)]) (s_seq (sl1 := [(0, 1), (1, 1), (2, 1)]) (p1 := 72) (s_decl (p1 := 71) (e_iconst d_M_settles_70 (by decide)) (t_istore_n d_M_settles_71 rfl (by decide)) rfl) (s_seq (sl1 := [(0, 1), (1, 1), (2, 1)]) (p1 := 103) (s_blk (sl1 := [(0, 1), (1, 1), (2, 1), (3, 1)]) (s_seq (sl1 := [(0, 1), (1, 1), (2, 1), (3, 1)]) (p1 := 74) (s_decl (p1 := 73) (e_iconst d_M_settles_72 (by decide)) (t_istore_n d_M_settles_73 rfl (by decide)) rfl) (s_for (pt := 87) (pu := 97) (pf := 103) (pg := 0) (c_icmp_geF (p1 := 75) (p2 := 84) (tg := 103) (e_iload_n (k0 := 3) d_M_settles_74 rfl rfl) (e_iald (p1 := 79) (p2 := 83) (e_gR (k0 := 25) (p1 := 76) cf_12 (e_aload_n (k0 := 0) d_M_settles_75 rfl rfl) (by decide) tw_1385 d_M_settles_76) (e_gI (k0 := 18) (p1 := 80) cf_12 (e_aload_n (k0 := 0) d_M_settles_79 rfl rfl) (by decide) tw_1378 d_M_settles_80) d_M_settles_83) d_M_settles_84 rfl) (s_if (pt := 95) (pf := 97) (c_if_eqF (p1 := 92) (tg := 97) (e_cI (p1 := 89) (a_cons (ι := Value.ref) (k0 := 1) (p1 := 88) (fun _ => rfl) (e_aload_n (k0 := 0) d_M_settles_87 rfl rfl) (a_cons (ι := Value.int) (k0 := 1) (p1 := 89) (fun _ => rfl) (e_iload_n (k0 := 3) d_M_settles_88 rfl rfl) a_nil)) (k_virt ok_M_changes mf_M_changes ⟨tw_1937, tw_113⟩ rfl tw_1935 d_M_settles_89 (by decide) (by decide) (by decide))) d_M_settles_92 rfl) (s_set (k0 := 2) (p1 := 96) (e_iconst d_M_settles_95 (by decide)) (t_istore_n d_M_settles_96 rfl (by decide)) rfl rfl) s_skip) (s_goto (p1 := 100) (s_inc (k0 := 3) d_M_settles_97 rfl rfl (Nat.le_of_ble_eq_true rfl) rfl) d_M_settles_100 rfl))) rfl) (s_if (pt := 107) (pf := 109) (c_not (c_if_neT (p1 := 104) (tg := 109) (e_iload_n (k0 := 2) d_M_settles_103 rfl rfl) d_M_settles_104 rfl)) (s_ret (p1 := 108) (e_iload_n (k0 := 1) d_M_settles_107 rfl rfl) rfl d_M_settles_108) s_skip))) rfl) (s_goto (p1 := 112) (s_inc (k0 := 1) d_M_settles_109 rfl rfl (Nat.le_of_ble_eq_true rfl) rfl) d_M_settles_112 rfl))) rfl) (s_ret (p1 := 117) (e_bipush d_M_settles_115 (by decide)) rfl d_M_settles_117))))))
/-! BlinkerCrossModel.eachWith(III)I -/
abbrev y_M_eachWith : MethodName := ⟨"BlinkerCrossModel", "eachWith", "(III)I"⟩
abbrev Y_M_eachWith : Yt := (prog_14_method_102_code, 4, "BlinkerCrossModel", 1, (some .int), "eachWith")
theorem d_M_eachWith_0 : decode prog_14_method_102_code 0 = .ok (.aload_n 0, 1) := by decide +kernel
theorem d_M_eachWith_1 : decode prog_14_method_102_code 1 = .ok (.iload_n 1, 1) := by decide +kernel
theorem d_M_eachWith_2 : decode prog_14_method_102_code 2 = .ok (.iload_n 2, 1) := by decide +kernel
theorem d_M_eachWith_3 : decode prog_14_method_102_code 3 = .ok (.invokevirtual 342, 3) := by decide +kernel
theorem d_M_eachWith_6 : decode prog_14_method_102_code 6 = .ok (.aload_n 0, 1) := by decide +kernel
theorem d_M_eachWith_7 : decode prog_14_method_102_code 7 = .ok (.getfield 140, 3) := by decide +kernel
theorem d_M_eachWith_10 : decode prog_14_method_102_code 10 = .ok (.bipush 64, 2) := by decide +kernel
theorem d_M_eachWith_12 : decode prog_14_method_102_code 12 = .ok (.iload_n 1, 1) := by decide +kernel
theorem d_M_eachWith_13 : decode prog_14_method_102_code 13 = .ok (.imul, 1) := by decide +kernel
theorem d_M_eachWith_14 : decode prog_14_method_102_code 14 = .ok (.bipush 64, 2) := by decide +kernel
theorem d_M_eachWith_16 : decode prog_14_method_102_code 16 = .ok (.iadd, 1) := by decide +kernel
theorem d_M_eachWith_17 : decode prog_14_method_102_code 17 = .ok (.iload_n 3, 1) := by decide +kernel
theorem d_M_eachWith_18 : decode prog_14_method_102_code 18 = .ok (.iconst 1, 1) := by decide +kernel
theorem d_M_eachWith_19 : decode prog_14_method_102_code 19 = .ok (.iload_n 2, 1) := by decide +kernel
theorem d_M_eachWith_20 : decode prog_14_method_102_code 20 = .ok (.ishl, 1) := by decide +kernel
theorem d_M_eachWith_21 : decode prog_14_method_102_code 21 = .ok (.ior, 1) := by decide +kernel
theorem d_M_eachWith_22 : decode prog_14_method_102_code 22 = .ok (.iadd, 1) := by decide +kernel
theorem d_M_eachWith_23 : decode prog_14_method_102_code 23 = .ok (.iaload, 1) := by decide +kernel
theorem d_M_eachWith_24 : decode prog_14_method_102_code 24 = .ok (.iadd, 1) := by decide +kernel
theorem d_M_eachWith_25 : decode prog_14_method_102_code 25 = .ok (.ireturn, 1) := by decide +kernel
noncomputable def F_M_eachWith : Sm := sRet (asV Value.int (o2 (fun x y => x + y) (cI (mV 12 D_M_wantAt) [asV Value.ref (vR 0), asV Value.int (vI 1), asV Value.int (vI 2)]) (aI 0 (gR 12 65 (vR 0)) (o2 (fun x y => x + y) (o2 (fun x y => x + y) (o2 (fun x y => x * y) (kI (ii 64)) (vI 1)) (kI (ii 64))) (o2 (fun x y => x ||| y) (vI 3) (o2 (fun (x y : Int32) => x <<< (y &&& 31)) (kI (ii 1)) (vI 2)))))))
theorem mf_M_eachWith : Mf y_M_eachWith prog_14_method_102_code 4 (some .int) 3 := ⟨tw_1950, tw_134, by decide +kernel⟩
noncomputable def D_M_eachWith : Dn := runS [1, 1, 1, 1] F_M_eachWith
theorem ok_M_eachWith : MOK y_M_eachWith prog_14_method_102_code 4 (some .int) 1 0 0 D_M_eachWith := MOK.of (by decide) (by decide) (show SO Y_M_eachWith [(0, 1), (1, 1), (2, 1), (3, 1)] [(0, 1), (1, 1), (2, 1), (3, 1)] 0 26 (([], 0), ([], 0)) F_M_eachWith from
  (s_ret (p1 := 25) (e_iadd (p1 := 6) (p2 := 24) (e_cI (p1 := 3) (a_cons (ι := Value.ref) (k0 := 1) (p1 := 1) (fun _ => rfl) (e_aload_n (k0 := 0) d_M_eachWith_0 rfl rfl) (a_cons (ι := Value.int) (k0 := 1) (p1 := 2) (fun _ => rfl) (e_iload_n (k0 := 1) d_M_eachWith_1 rfl rfl) (a_cons (ι := Value.int) (k0 := 1) (p1 := 3) (fun _ => rfl) (e_iload_n (k0 := 2) d_M_eachWith_2 rfl rfl) a_nil))) (k_virt ok_M_wantAt mf_M_wantAt ⟨tw_1731, tw_79⟩ rfl tw_1729 d_M_eachWith_3 (by decide) (by decide) (by decide))) (e_iald (p1 := 10) (p2 := 23) (e_gR (k0 := 65) (p1 := 7) cf_12 (e_aload_n (k0 := 0) d_M_eachWith_6 rfl rfl) (by decide) tw_1425 d_M_eachWith_7) (e_iadd (p1 := 17) (p2 := 22) (e_iadd (p1 := 14) (p2 := 16) (e_imul (p1 := 12) (p2 := 13) (e_bipush d_M_eachWith_10 (by decide)) (e_iload_n (k0 := 1) d_M_eachWith_12 rfl rfl) d_M_eachWith_13) (e_bipush d_M_eachWith_14 (by decide)) d_M_eachWith_16) (e_ior (p1 := 18) (p2 := 21) (e_iload_n (k0 := 3) d_M_eachWith_17 rfl rfl) (e_ishl (p1 := 19) (p2 := 20) (e_iconst d_M_eachWith_18 (by decide)) (e_iload_n (k0 := 2) d_M_eachWith_19 rfl rfl) d_M_eachWith_20) d_M_eachWith_21) d_M_eachWith_22) d_M_eachWith_23) d_M_eachWith_24) rfl d_M_eachWith_25))
/-! BlinkerCrossModel.fillsEach()V -/
abbrev y_M_fillsEach : MethodName := ⟨"BlinkerCrossModel", "fillsEach", "()V"⟩
abbrev Y_M_fillsEach : Yt := (prog_14_method_103_code, 5, "BlinkerCrossModel", 4, none, "fillsEach")
theorem d_M_fillsEach_0 : decode prog_14_method_103_code 0 = .ok (.aload_n 0, 1) := by decide +kernel
theorem d_M_fillsEach_1 : decode prog_14_method_103_code 1 = .ok (.invokevirtual 357, 3) := by decide +kernel
theorem d_M_fillsEach_4 : decode prog_14_method_103_code 4 = .ok (.iconst 0, 1) := by decide +kernel
theorem d_M_fillsEach_5 : decode prog_14_method_103_code 5 = .ok (.istore_n 1, 1) := by decide +kernel
theorem d_M_fillsEach_6 : decode prog_14_method_103_code 6 = .ok (.iload_n 1, 1) := by decide +kernel
theorem d_M_fillsEach_7 : decode prog_14_method_103_code 7 = .ok (.bipush 64, 2) := by decide +kernel
theorem d_M_fillsEach_9 : decode prog_14_method_103_code 9 = .ok (.if_icmp .ge 29, 3) := by decide +kernel
theorem d_M_fillsEach_12 : decode prog_14_method_103_code 12 = .ok (.aload_n 0, 1) := by decide +kernel
theorem d_M_fillsEach_13 : decode prog_14_method_103_code 13 = .ok (.getfield 140, 3) := by decide +kernel
theorem d_M_fillsEach_16 : decode prog_14_method_103_code 16 = .ok (.bipush 64, 2) := by decide +kernel
theorem d_M_fillsEach_18 : decode prog_14_method_103_code 18 = .ok (.aload_n 0, 1) := by decide +kernel
theorem d_M_fillsEach_19 : decode prog_14_method_103_code 19 = .ok (.getfield 52, 3) := by decide +kernel
theorem d_M_fillsEach_22 : decode prog_14_method_103_code 22 = .ok (.aload_n 0, 1) := by decide +kernel
theorem d_M_fillsEach_23 : decode prog_14_method_103_code 23 = .ok (.getfield 242, 3) := by decide +kernel
theorem d_M_fillsEach_26 : decode prog_14_method_103_code 26 = .ok (.iaload, 1) := by decide +kernel
theorem d_M_fillsEach_27 : decode prog_14_method_103_code 27 = .ok (.imul, 1) := by decide +kernel
theorem d_M_fillsEach_28 : decode prog_14_method_103_code 28 = .ok (.iload_n 1, 1) := by decide +kernel
theorem d_M_fillsEach_29 : decode prog_14_method_103_code 29 = .ok (.iadd, 1) := by decide +kernel
theorem d_M_fillsEach_30 : decode prog_14_method_103_code 30 = .ok (.iconst 0, 1) := by decide +kernel
theorem d_M_fillsEach_31 : decode prog_14_method_103_code 31 = .ok (.iastore, 1) := by decide +kernel
theorem d_M_fillsEach_32 : decode prog_14_method_103_code 32 = .ok (.iinc 1 1, 3) := by decide +kernel
theorem d_M_fillsEach_35 : decode prog_14_method_103_code 35 = .ok (.goto (-29), 3) := by decide +kernel
theorem d_M_fillsEach_38 : decode prog_14_method_103_code 38 = .ok (.aload_n 0, 1) := by decide +kernel
theorem d_M_fillsEach_39 : decode prog_14_method_103_code 39 = .ok (.getfield 52, 3) := by decide +kernel
theorem d_M_fillsEach_42 : decode prog_14_method_103_code 42 = .ok (.aload_n 0, 1) := by decide +kernel
theorem d_M_fillsEach_43 : decode prog_14_method_103_code 43 = .ok (.getfield 242, 3) := by decide +kernel
theorem d_M_fillsEach_46 : decode prog_14_method_103_code 46 = .ok (.iaload, 1) := by decide +kernel
theorem d_M_fillsEach_47 : decode prog_14_method_103_code 47 = .ok (.iconst 1, 1) := by decide +kernel
theorem d_M_fillsEach_48 : decode prog_14_method_103_code 48 = .ok (.isub, 1) := by decide +kernel
theorem d_M_fillsEach_49 : decode prog_14_method_103_code 49 = .ok (.istore_n 1, 1) := by decide +kernel
theorem d_M_fillsEach_50 : decode prog_14_method_103_code 50 = .ok (.iload_n 1, 1) := by decide +kernel
theorem d_M_fillsEach_51 : decode prog_14_method_103_code 51 = .ok (.ifCond .lt 103, 3) := by decide +kernel
theorem d_M_fillsEach_54 : decode prog_14_method_103_code 54 = .ok (.iconst 0, 1) := by decide +kernel
theorem d_M_fillsEach_55 : decode prog_14_method_103_code 55 = .ok (.istore_n 2, 1) := by decide +kernel
theorem d_M_fillsEach_56 : decode prog_14_method_103_code 56 = .ok (.iload_n 2, 1) := by decide +kernel
theorem d_M_fillsEach_57 : decode prog_14_method_103_code 57 = .ok (.bipush 64, 2) := by decide +kernel
theorem d_M_fillsEach_59 : decode prog_14_method_103_code 59 = .ok (.if_icmp .ge 89, 3) := by decide +kernel
theorem d_M_fillsEach_62 : decode prog_14_method_103_code 62 = .ok (.aload_n 0, 1) := by decide +kernel
theorem d_M_fillsEach_63 : decode prog_14_method_103_code 63 = .ok (.getfield 140, 3) := by decide +kernel
theorem d_M_fillsEach_66 : decode prog_14_method_103_code 66 = .ok (.bipush 64, 2) := by decide +kernel
theorem d_M_fillsEach_68 : decode prog_14_method_103_code 68 = .ok (.iload_n 1, 1) := by decide +kernel
theorem d_M_fillsEach_69 : decode prog_14_method_103_code 69 = .ok (.imul, 1) := by decide +kernel
theorem d_M_fillsEach_70 : decode prog_14_method_103_code 70 = .ok (.bipush 64, 2) := by decide +kernel
theorem d_M_fillsEach_72 : decode prog_14_method_103_code 72 = .ok (.iadd, 1) := by decide +kernel
theorem d_M_fillsEach_73 : decode prog_14_method_103_code 73 = .ok (.iload_n 2, 1) := by decide +kernel
theorem d_M_fillsEach_74 : decode prog_14_method_103_code 74 = .ok (.iadd, 1) := by decide +kernel
theorem d_M_fillsEach_75 : decode prog_14_method_103_code 75 = .ok (.iaload, 1) := by decide +kernel
theorem d_M_fillsEach_76 : decode prog_14_method_103_code 76 = .ok (.istore_n 3, 1) := by decide +kernel
theorem d_M_fillsEach_77 : decode prog_14_method_103_code 77 = .ok (.iconst 0, 1) := by decide +kernel
theorem d_M_fillsEach_78 : decode prog_14_method_103_code 78 = .ok (.istore 4, 2) := by decide +kernel
theorem d_M_fillsEach_80 : decode prog_14_method_103_code 80 = .ok (.iload 4, 2) := by decide +kernel
theorem d_M_fillsEach_82 : decode prog_14_method_103_code 82 = .ok (.aload_n 0, 1) := by decide +kernel
theorem d_M_fillsEach_83 : decode prog_14_method_103_code 83 = .ok (.getfield 46, 3) := by decide +kernel
theorem d_M_fillsEach_86 : decode prog_14_method_103_code 86 = .ok (.aload_n 0, 1) := by decide +kernel
theorem d_M_fillsEach_87 : decode prog_14_method_103_code 87 = .ok (.getfield 242, 3) := by decide +kernel
theorem d_M_fillsEach_90 : decode prog_14_method_103_code 90 = .ok (.iaload, 1) := by decide +kernel
theorem d_M_fillsEach_91 : decode prog_14_method_103_code 91 = .ok (.if_icmp .ge 39, 3) := by decide +kernel
theorem d_M_fillsEach_94 : decode prog_14_method_103_code 94 = .ok (.iload_n 2, 1) := by decide +kernel
theorem d_M_fillsEach_95 : decode prog_14_method_103_code 95 = .ok (.iload 4, 2) := by decide +kernel
theorem d_M_fillsEach_97 : decode prog_14_method_103_code 97 = .ok (.ishr, 1) := by decide +kernel
theorem d_M_fillsEach_98 : decode prog_14_method_103_code 98 = .ok (.iconst 1, 1) := by decide +kernel
theorem d_M_fillsEach_99 : decode prog_14_method_103_code 99 = .ok (.iand, 1) := by decide +kernel
theorem d_M_fillsEach_100 : decode prog_14_method_103_code 100 = .ok (.ifCond .ne 24, 3) := by decide +kernel
theorem d_M_fillsEach_103 : decode prog_14_method_103_code 103 = .ok (.aload_n 0, 1) := by decide +kernel
theorem d_M_fillsEach_104 : decode prog_14_method_103_code 104 = .ok (.iload_n 1, 1) := by decide +kernel
theorem d_M_fillsEach_105 : decode prog_14_method_103_code 105 = .ok (.iload 4, 2) := by decide +kernel
theorem d_M_fillsEach_107 : decode prog_14_method_103_code 107 = .ok (.iload_n 2, 1) := by decide +kernel
theorem d_M_fillsEach_108 : decode prog_14_method_103_code 108 = .ok (.invokevirtual 485, 3) := by decide +kernel
theorem d_M_fillsEach_111 : decode prog_14_method_103_code 111 = .ok (.iload_n 3, 1) := by decide +kernel
theorem d_M_fillsEach_112 : decode prog_14_method_103_code 112 = .ok (.if_icmp .le 12, 3) := by decide +kernel
theorem d_M_fillsEach_115 : decode prog_14_method_103_code 115 = .ok (.aload_n 0, 1) := by decide +kernel
theorem d_M_fillsEach_116 : decode prog_14_method_103_code 116 = .ok (.iload_n 1, 1) := by decide +kernel
theorem d_M_fillsEach_117 : decode prog_14_method_103_code 117 = .ok (.iload 4, 2) := by decide +kernel
theorem d_M_fillsEach_119 : decode prog_14_method_103_code 119 = .ok (.iload_n 2, 1) := by decide +kernel
theorem d_M_fillsEach_120 : decode prog_14_method_103_code 120 = .ok (.invokevirtual 485, 3) := by decide +kernel
theorem d_M_fillsEach_123 : decode prog_14_method_103_code 123 = .ok (.istore_n 3, 1) := by decide +kernel
theorem d_M_fillsEach_124 : decode prog_14_method_103_code 124 = .ok (.iinc 4 1, 3) := by decide +kernel
theorem d_M_fillsEach_127 : decode prog_14_method_103_code 127 = .ok (.goto (-47), 3) := by decide +kernel
theorem d_M_fillsEach_130 : decode prog_14_method_103_code 130 = .ok (.aload_n 0, 1) := by decide +kernel
theorem d_M_fillsEach_131 : decode prog_14_method_103_code 131 = .ok (.getfield 140, 3) := by decide +kernel
theorem d_M_fillsEach_134 : decode prog_14_method_103_code 134 = .ok (.bipush 64, 2) := by decide +kernel
theorem d_M_fillsEach_136 : decode prog_14_method_103_code 136 = .ok (.iload_n 1, 1) := by decide +kernel
theorem d_M_fillsEach_137 : decode prog_14_method_103_code 137 = .ok (.imul, 1) := by decide +kernel
theorem d_M_fillsEach_138 : decode prog_14_method_103_code 138 = .ok (.iload_n 2, 1) := by decide +kernel
theorem d_M_fillsEach_139 : decode prog_14_method_103_code 139 = .ok (.iadd, 1) := by decide +kernel
theorem d_M_fillsEach_140 : decode prog_14_method_103_code 140 = .ok (.iload_n 3, 1) := by decide +kernel
theorem d_M_fillsEach_141 : decode prog_14_method_103_code 141 = .ok (.iastore, 1) := by decide +kernel
theorem d_M_fillsEach_142 : decode prog_14_method_103_code 142 = .ok (.iinc 2 1, 3) := by decide +kernel
theorem d_M_fillsEach_145 : decode prog_14_method_103_code 145 = .ok (.goto (-89), 3) := by decide +kernel
theorem d_M_fillsEach_148 : decode prog_14_method_103_code 148 = .ok (.iinc 1 (-1), 3) := by decide +kernel
theorem d_M_fillsEach_151 : decode prog_14_method_103_code 151 = .ok (.goto (-101), 3) := by decide +kernel
theorem d_M_fillsEach_154 : decode prog_14_method_103_code 154 = .ok (.return_, 1) := by decide +kernel
noncomputable def Lc_M_fillsEach_1 : Xp Bool := o2 (fun x y => decide (x < y)) (vI 1) (kI (ii 64))
noncomputable def Lb_M_fillsEach_1 : Sm := sAst 0 (gR 12 65 (vR 0)) (o2 (fun x y => x + y) (o2 (fun x y => x * y) (kI (ii 64)) (aI 0 (gR 12 25 (vR 0)) (gI 12 18 (vR 0)))) (vI 1)) (kI (ii 0))
noncomputable def Lu_M_fillsEach_1 : Sm := sInc 1 (ii 1)
noncomputable def Lc_M_fillsEach_2 : Xp Bool := o2 (fun x y => decide (x < y)) (vI 4) (aI 0 (gR 12 23 (vR 0)) (gI 12 18 (vR 0)))
noncomputable def Lb_M_fillsEach_2 : Sm := sIf (cAnd (o1 (fun x => decide (x = 0)) (o2 (fun x y => x &&& y) (o2 (fun (x y : Int32) => x >>> (y &&& 31)) (vI 2) (vI 4)) (kI (ii 1)))) (o2 (fun x y => decide (x > y)) (cI (mV 12 D_M_eachWith) [asV Value.ref (vR 0), asV Value.int (vI 1), asV Value.int (vI 4), asV Value.int (vI 2)]) (vI 3))) (sSet 3 (asV Value.int (cI (mV 12 D_M_eachWith) [asV Value.ref (vR 0), asV Value.int (vI 1), asV Value.int (vI 4), asV Value.int (vI 2)]))) (sSkip)
noncomputable def Lu_M_fillsEach_2 : Sm := sInc 4 (ii 1)
noncomputable def Lc_M_fillsEach_3 : Xp Bool := o2 (fun x y => decide (x < y)) (vI 2) (kI (ii 64))
noncomputable def Lb_M_fillsEach_3 : Sm := sBlk 3 (sSeq (sDecl (asV Value.int (aI 0 (gR 12 65 (vR 0)) (o2 (fun x y => x + y) (o2 (fun x y => x + y) (o2 (fun x y => x * y) (kI (ii 64)) (vI 1)) (kI (ii 64))) (vI 2))))) (sSeq (sBlk 4 (sSeq (sDecl (asV Value.int (kI (ii 0)))) (sWh (Lc_M_fillsEach_2) (Lb_M_fillsEach_2) Lu_M_fillsEach_2))) (sAst 0 (gR 12 65 (vR 0)) (o2 (fun x y => x + y) (o2 (fun x y => x * y) (kI (ii 64)) (vI 1)) (vI 2)) (vI 3))))
noncomputable def Lu_M_fillsEach_3 : Sm := sInc 2 (ii 1)
noncomputable def Lc_M_fillsEach_4 : Xp Bool := o1 (fun x => decide (x ≥ 0)) (vI 1)
noncomputable def Lb_M_fillsEach_4 : Sm := sBlk 2 (sSeq (sDecl (asV Value.int (kI (ii 0)))) (sWh (Lc_M_fillsEach_3) (Lb_M_fillsEach_3) Lu_M_fillsEach_3))
noncomputable def Lu_M_fillsEach_4 : Sm := sInc 1 (ii (-1))
noncomputable def F_M_fillsEach : Sm := sSeq (sCall (mV 12 D_M_copies) [asV Value.ref (vR 0)]) (sSeq (sBlk 1 (sSeq (sDecl (asV Value.int (kI (ii 0)))) (sWh (Lc_M_fillsEach_1) (Lb_M_fillsEach_1) Lu_M_fillsEach_1))) (sSeq (sBlk 1 (sSeq (sDecl (asV Value.int (o2 (fun x y => x - y) (aI 0 (gR 12 25 (vR 0)) (gI 12 18 (vR 0))) (kI (ii 1))))) (sWh (Lc_M_fillsEach_4) (Lb_M_fillsEach_4) Lu_M_fillsEach_4))) (sRetV)))
theorem mf_M_fillsEach : Mf y_M_fillsEach prog_14_method_103_code 5 none 0 := ⟨tw_1946, tw_134, by decide +kernel⟩
noncomputable def D_M_fillsEach : Dn := runS [1] F_M_fillsEach
theorem ok_M_fillsEach : MOK y_M_fillsEach prog_14_method_103_code 5 none 4 0 0 D_M_fillsEach := MOK.of (by decide) (by decide) (show SO Y_M_fillsEach [(0, 1)] [(0, 1)] 0 155 (([], 0), ([], 0)) F_M_fillsEach from
  (s_seq (sl1 := [(0, 1)]) (p1 := 4) (s_call (p1 := 1) (a_cons (ι := Value.ref) (k0 := 1) (p1 := 1) (fun _ => rfl) (e_aload_n (k0 := 0) d_M_fillsEach_0 rfl rfl) a_nil) (k_virt ok_M_copies mf_M_copies ⟨tw_1707, tw_73⟩ rfl tw_1705 d_M_fillsEach_1 (by decide) (by decide) (by decide))) (s_seq (sl1 := [(0, 1)]) (p1 := 38) (s_blk (sl1 := [(0, 1), (1, 1)]) (s_seq (sl1 := [(0, 1), (1, 1)]) (p1 := 6) (s_decl (p1 := 5) (e_iconst d_M_fillsEach_4 (by decide)) (t_istore_n d_M_fillsEach_5 rfl (by decide)) rfl) (s_for (pt := 12) (pu := 32) (pf := 38) (pg := 0) (c_icmp_geF (p1 := 7) (p2 := 9) (tg := 38) (e_iload_n (k0 := 1) d_M_fillsEach_6 rfl rfl) (e_bipush d_M_fillsEach_7 (by decide)) d_M_fillsEach_9 rfl) (s_ast (p1 := 16) (p2 := 30) (p3 := 31) (e_gR (k0 := 65) (p1 := 13) cf_12 (e_aload_n (k0 := 0) d_M_fillsEach_12 rfl rfl) (by decide) tw_1425 d_M_fillsEach_13) (e_iadd (p1 := 28) (p2 := 29) (e_imul (p1 := 18) (p2 := 27) (e_bipush d_M_fillsEach_16 (by decide)) (e_iald (p1 := 22) (p2 := 26) (e_gR (k0 := 25) (p1 := 19) cf_12 (e_aload_n (k0 := 0) d_M_fillsEach_18 rfl rfl) (by decide) tw_1385 d_M_fillsEach_19) (e_gI (k0 := 18) (p1 := 23) cf_12 (e_aload_n (k0 := 0) d_M_fillsEach_22 rfl rfl) (by decide) tw_1378 d_M_fillsEach_23) d_M_fillsEach_26) d_M_fillsEach_27) (e_iload_n (k0 := 1) d_M_fillsEach_28 rfl rfl) d_M_fillsEach_29) (e_iconst d_M_fillsEach_30 (by decide)) (as_i d_M_fillsEach_31)) (s_goto (p1 := 35) (s_inc (k0 := 1) d_M_fillsEach_32 rfl rfl (Nat.le_of_ble_eq_true rfl) rfl) d_M_fillsEach_35 rfl))) rfl) (s_seq (sl1 := [(0, 1)]) (p1 := 154) (s_blk (sl1 := [(0, 1), (1, 1)]) (s_seq (sl1 := [(0, 1), (1, 1)]) (p1 := 50) (s_decl (p1 := 49) (e_isub (p1 := 47) (p2 := 48) (e_iald (p1 := 42) (p2 := 46) (e_gR (k0 := 25) (p1 := 39) cf_12 (e_aload_n (k0 := 0) d_M_fillsEach_38 rfl rfl) (by decide) tw_1385 d_M_fillsEach_39) (e_gI (k0 := 18) (p1 := 43) cf_12 (e_aload_n (k0 := 0) d_M_fillsEach_42 rfl rfl) (by decide) tw_1378 d_M_fillsEach_43) d_M_fillsEach_46) (e_iconst d_M_fillsEach_47 (by decide)) d_M_fillsEach_48) (t_istore_n d_M_fillsEach_49 rfl (by decide)) rfl) (s_for (pt := 54) (pu := 148) (pf := 154) (pg := 0) (c_if_ltF (p1 := 51) (tg := 154) (e_iload_n (k0 := 1) d_M_fillsEach_50 rfl rfl) d_M_fillsEach_51 rfl) (s_blk (sl1 := [(0, 1), (1, 1), (2, 1)]) (s_seq (sl1 := [(0, 1), (1, 1), (2, 1)]) (p1 := 56) (s_decl (p1 := 55) (e_iconst d_M_fillsEach_54 (by decide)) (t_istore_n d_M_fillsEach_55 rfl (by decide)) rfl) (s_for (pt := 62) (pu := 142) (pf := 148) (pg := 0) (c_icmp_geF (p1 := 57) (p2 := 59) (tg := 148) (e_iload_n (k0 := 2) d_M_fillsEach_56 rfl rfl) (e_bipush d_M_fillsEach_57 (by decide)) d_M_fillsEach_59 rfl) (s_blk (sl1 := [(0, 1), (1, 1), (2, 1), (3, 1)]) (s_seq (sl1 := [(0, 1), (1, 1), (2, 1), (3, 1)]) (p1 := 77) (s_decl (p1 := 76) (e_iald (p1 := 66) (p2 := 75) (e_gR (k0 := 65) (p1 := 63) cf_12 (e_aload_n (k0 := 0) d_M_fillsEach_62 rfl rfl) (by decide) tw_1425 d_M_fillsEach_63) (e_iadd (p1 := 73) (p2 := 74) (e_iadd (p1 := 70) (p2 := 72) (e_imul (p1 := 68) (p2 := 69) (e_bipush d_M_fillsEach_66 (by decide)) (e_iload_n (k0 := 1) d_M_fillsEach_68 rfl rfl) d_M_fillsEach_69) (e_bipush d_M_fillsEach_70 (by decide)) d_M_fillsEach_72) (e_iload_n (k0 := 2) d_M_fillsEach_73 rfl rfl) d_M_fillsEach_74) d_M_fillsEach_75) (t_istore_n d_M_fillsEach_76 rfl (by decide)) rfl) (s_seq (sl1 := [(0, 1), (1, 1), (2, 1), (3, 1)]) (p1 := 130) (s_blk (sl1 := [(0, 1), (1, 1), (2, 1), (3, 1), (4, 1)]) (s_seq (sl1 := [(0, 1), (1, 1), (2, 1), (3, 1), (4, 1)]) (p1 := 80) (s_decl (p1 := 78) (e_iconst d_M_fillsEach_77 (by decide)) (t_istore d_M_fillsEach_78 (by decide)) rfl) (s_for (pt := 94) (pu := 124) (pf := 130) (pg := 0) (c_icmp_geF (p1 := 82) (p2 := 91) (tg := 130) (e_iload (k0 := 4) d_M_fillsEach_80 rfl) (e_iald (p1 := 86) (p2 := 90) (e_gR (k0 := 23) (p1 := 83) cf_12 (e_aload_n (k0 := 0) d_M_fillsEach_82 rfl rfl) (by decide) tw_1383 d_M_fillsEach_83) (e_gI (k0 := 18) (p1 := 87) cf_12 (e_aload_n (k0 := 0) d_M_fillsEach_86 rfl rfl) (by decide) tw_1378 d_M_fillsEach_87) d_M_fillsEach_90) d_M_fillsEach_91 rfl) (s_if (pt := 115) (pf := 124) (c_and (p1 := 103) (c_if_neF (p1 := 100) (tg := 124) (e_iand (p1 := 98) (p2 := 99) (e_ishr (p1 := 95) (p2 := 97) (e_iload_n (k0 := 2) d_M_fillsEach_94 rfl rfl) (e_iload (k0 := 4) d_M_fillsEach_95 rfl) d_M_fillsEach_97) (e_iconst d_M_fillsEach_98 (by decide)) d_M_fillsEach_99) d_M_fillsEach_100 rfl) (c_icmp_leF (p1 := 111) (p2 := 112) (tg := 124) (e_cI (p1 := 108) (a_cons (ι := Value.ref) (k0 := 1) (p1 := 104) (fun _ => rfl) (e_aload_n (k0 := 0) d_M_fillsEach_103 rfl rfl) (a_cons (ι := Value.int) (k0 := 1) (p1 := 105) (fun _ => rfl) (e_iload_n (k0 := 1) d_M_fillsEach_104 rfl rfl) (a_cons (ι := Value.int) (k0 := 1) (p1 := 107) (fun _ => rfl) (e_iload (k0 := 4) d_M_fillsEach_105 rfl) (a_cons (ι := Value.int) (k0 := 1) (p1 := 108) (fun _ => rfl) (e_iload_n (k0 := 2) d_M_fillsEach_107 rfl rfl) a_nil)))) (k_virt ok_M_eachWith mf_M_eachWith ⟨tw_1949, tw_115⟩ rfl tw_1947 d_M_fillsEach_108 (by decide) (by decide) (by decide))) (e_iload_n (k0 := 3) d_M_fillsEach_111 rfl rfl) d_M_fillsEach_112 rfl)) (s_set (k0 := 3) (p1 := 123) (e_cI (p1 := 120) (a_cons (ι := Value.ref) (k0 := 1) (p1 := 116) (fun _ => rfl) (e_aload_n (k0 := 0) d_M_fillsEach_115 rfl rfl) (a_cons (ι := Value.int) (k0 := 1) (p1 := 117) (fun _ => rfl) (e_iload_n (k0 := 1) d_M_fillsEach_116 rfl rfl) (a_cons (ι := Value.int) (k0 := 1) (p1 := 119) (fun _ => rfl) (e_iload (k0 := 4) d_M_fillsEach_117 rfl) (a_cons (ι := Value.int) (k0 := 1) (p1 := 120) (fun _ => rfl) (e_iload_n (k0 := 2) d_M_fillsEach_119 rfl rfl) a_nil)))) (k_virt ok_M_eachWith mf_M_eachWith ⟨tw_1949, tw_115⟩ rfl tw_1947 d_M_fillsEach_120 (by decide) (by decide) (by decide))) (t_istore_n d_M_fillsEach_123 rfl (by decide)) rfl rfl) s_skip) (s_goto (p1 := 127) (s_inc (k0 := 4) d_M_fillsEach_124 rfl rfl (Nat.le_of_ble_eq_true rfl) rfl) d_M_fillsEach_127 rfl))) rfl) (s_ast (p1 := 134) (p2 := 140) (p3 := 141) (e_gR (k0 := 65) (p1 := 131) cf_12 (e_aload_n (k0 := 0) d_M_fillsEach_130 rfl rfl) (by decide) tw_1425 d_M_fillsEach_131) (e_iadd (p1 := 138) (p2 := 139) (e_imul (p1 := 136) (p2 := 137) (e_bipush d_M_fillsEach_134 (by decide)) (e_iload_n (k0 := 1) d_M_fillsEach_136 rfl rfl) d_M_fillsEach_137) (e_iload_n (k0 := 2) d_M_fillsEach_138 rfl rfl) d_M_fillsEach_139) (e_iload_n (k0 := 3) d_M_fillsEach_140 rfl rfl) (as_i d_M_fillsEach_141)))) rfl) (s_goto (p1 := 145) (s_inc (k0 := 2) d_M_fillsEach_142 rfl rfl (Nat.le_of_ble_eq_true rfl) rfl) d_M_fillsEach_145 rfl))) rfl) (s_goto (p1 := 151) (s_inc (k0 := 1) d_M_fillsEach_148 rfl rfl (Nat.le_of_ble_eq_true rfl) rfl) d_M_fillsEach_151 rfl))) rfl) (s_retV rfl d_M_fillsEach_154)))))
/-! BlinkerCrossModel.oneEach(I)I -/
abbrev y_M_oneEach : MethodName := ⟨"BlinkerCrossModel", "oneEach", "(I)I"⟩
abbrev Y_M_oneEach : Yt := (prog_14_method_104_code, 7, "BlinkerCrossModel", 5, (some .int), "oneEach")
theorem d_M_oneEach_0 : decode prog_14_method_104_code 0 = .ok (.iload_n 1, 1) := by decide +kernel
theorem d_M_oneEach_1 : decode prog_14_method_104_code 1 = .ok (.iconst (-1), 1) := by decide +kernel
theorem d_M_oneEach_2 : decode prog_14_method_104_code 2 = .ok (.if_icmp .eq 13, 3) := by decide +kernel
theorem d_M_oneEach_5 : decode prog_14_method_104_code 5 = .ok (.aload_n 0, 1) := by decide +kernel
theorem d_M_oneEach_6 : decode prog_14_method_104_code 6 = .ok (.iload_n 1, 1) := by decide +kernel
theorem d_M_oneEach_7 : decode prog_14_method_104_code 7 = .ok (.invokevirtual 345, 3) := by decide +kernel
theorem d_M_oneEach_10 : decode prog_14_method_104_code 10 = .ok (.ifCond .ne 5, 3) := by decide +kernel
theorem d_M_oneEach_13 : decode prog_14_method_104_code 13 = .ok (.iconst (-1), 1) := by decide +kernel
theorem d_M_oneEach_14 : decode prog_14_method_104_code 14 = .ok (.ireturn, 1) := by decide +kernel
theorem d_M_oneEach_15 : decode prog_14_method_104_code 15 = .ok (.aload_n 0, 1) := by decide +kernel
theorem d_M_oneEach_16 : decode prog_14_method_104_code 16 = .ok (.invokevirtual 488, 3) := by decide +kernel
theorem d_M_oneEach_19 : decode prog_14_method_104_code 19 = .ok (.iload_n 1, 1) := by decide +kernel
theorem d_M_oneEach_20 : decode prog_14_method_104_code 20 = .ok (.iconst (-1), 1) := by decide +kernel
theorem d_M_oneEach_21 : decode prog_14_method_104_code 21 = .ok (.if_icmp .ne 10, 3) := by decide +kernel
theorem d_M_oneEach_24 : decode prog_14_method_104_code 24 = .ok (.aload_n 0, 1) := by decide +kernel
theorem d_M_oneEach_25 : decode prog_14_method_104_code 25 = .ok (.getfield 140, 3) := by decide +kernel
theorem d_M_oneEach_28 : decode prog_14_method_104_code 28 = .ok (.iconst 0, 1) := by decide +kernel
theorem d_M_oneEach_29 : decode prog_14_method_104_code 29 = .ok (.iaload, 1) := by decide +kernel
theorem d_M_oneEach_30 : decode prog_14_method_104_code 30 = .ok (.ireturn, 1) := by decide +kernel
theorem d_M_oneEach_31 : decode prog_14_method_104_code 31 = .ok (.iconst 0, 1) := by decide +kernel
theorem d_M_oneEach_32 : decode prog_14_method_104_code 32 = .ok (.istore_n 2, 1) := by decide +kernel
theorem d_M_oneEach_33 : decode prog_14_method_104_code 33 = .ok (.bipush (-2), 2) := by decide +kernel
theorem d_M_oneEach_35 : decode prog_14_method_104_code 35 = .ok (.istore_n 3, 1) := by decide +kernel
theorem d_M_oneEach_36 : decode prog_14_method_104_code 36 = .ok (.iconst 0, 1) := by decide +kernel
theorem d_M_oneEach_37 : decode prog_14_method_104_code 37 = .ok (.istore 4, 2) := by decide +kernel
theorem d_M_oneEach_39 : decode prog_14_method_104_code 39 = .ok (.iload 4, 2) := by decide +kernel
theorem d_M_oneEach_41 : decode prog_14_method_104_code 41 = .ok (.iload_n 1, 1) := by decide +kernel
theorem d_M_oneEach_42 : decode prog_14_method_104_code 42 = .ok (.if_icmp .gt 109, 3) := by decide +kernel
theorem d_M_oneEach_45 : decode prog_14_method_104_code 45 = .ok (.aload_n 0, 1) := by decide +kernel
theorem d_M_oneEach_46 : decode prog_14_method_104_code 46 = .ok (.getfield 140, 3) := by decide +kernel
theorem d_M_oneEach_49 : decode prog_14_method_104_code 49 = .ok (.bipush 64, 2) := by decide +kernel
theorem d_M_oneEach_51 : decode prog_14_method_104_code 51 = .ok (.iload 4, 2) := by decide +kernel
theorem d_M_oneEach_53 : decode prog_14_method_104_code 53 = .ok (.imul, 1) := by decide +kernel
theorem d_M_oneEach_54 : decode prog_14_method_104_code 54 = .ok (.iload_n 2, 1) := by decide +kernel
theorem d_M_oneEach_55 : decode prog_14_method_104_code 55 = .ok (.iadd, 1) := by decide +kernel
theorem d_M_oneEach_56 : decode prog_14_method_104_code 56 = .ok (.iaload, 1) := by decide +kernel
theorem d_M_oneEach_57 : decode prog_14_method_104_code 57 = .ok (.istore 5, 2) := by decide +kernel
theorem d_M_oneEach_59 : decode prog_14_method_104_code 59 = .ok (.bipush (-2), 2) := by decide +kernel
theorem d_M_oneEach_61 : decode prog_14_method_104_code 61 = .ok (.istore_n 3, 1) := by decide +kernel
theorem d_M_oneEach_62 : decode prog_14_method_104_code 62 = .ok (.iconst 0, 1) := by decide +kernel
theorem d_M_oneEach_63 : decode prog_14_method_104_code 63 = .ok (.istore 6, 2) := by decide +kernel
theorem d_M_oneEach_65 : decode prog_14_method_104_code 65 = .ok (.iload 6, 2) := by decide +kernel
theorem d_M_oneEach_67 : decode prog_14_method_104_code 67 = .ok (.aload_n 0, 1) := by decide +kernel
theorem d_M_oneEach_68 : decode prog_14_method_104_code 68 = .ok (.getfield 46, 3) := by decide +kernel
theorem d_M_oneEach_71 : decode prog_14_method_104_code 71 = .ok (.aload_n 0, 1) := by decide +kernel
theorem d_M_oneEach_72 : decode prog_14_method_104_code 72 = .ok (.getfield 242, 3) := by decide +kernel
theorem d_M_oneEach_75 : decode prog_14_method_104_code 75 = .ok (.iaload, 1) := by decide +kernel
theorem d_M_oneEach_76 : decode prog_14_method_104_code 76 = .ok (.if_icmp .ge 59, 3) := by decide +kernel
theorem d_M_oneEach_79 : decode prog_14_method_104_code 79 = .ok (.aload_n 0, 1) := by decide +kernel
theorem d_M_oneEach_80 : decode prog_14_method_104_code 80 = .ok (.getfield 140, 3) := by decide +kernel
theorem d_M_oneEach_83 : decode prog_14_method_104_code 83 = .ok (.bipush 64, 2) := by decide +kernel
theorem d_M_oneEach_85 : decode prog_14_method_104_code 85 = .ok (.iload 4, 2) := by decide +kernel
theorem d_M_oneEach_87 : decode prog_14_method_104_code 87 = .ok (.imul, 1) := by decide +kernel
theorem d_M_oneEach_88 : decode prog_14_method_104_code 88 = .ok (.bipush 64, 2) := by decide +kernel
theorem d_M_oneEach_90 : decode prog_14_method_104_code 90 = .ok (.iadd, 1) := by decide +kernel
theorem d_M_oneEach_91 : decode prog_14_method_104_code 91 = .ok (.iload_n 2, 1) := by decide +kernel
theorem d_M_oneEach_92 : decode prog_14_method_104_code 92 = .ok (.iadd, 1) := by decide +kernel
theorem d_M_oneEach_93 : decode prog_14_method_104_code 93 = .ok (.iaload, 1) := by decide +kernel
theorem d_M_oneEach_94 : decode prog_14_method_104_code 94 = .ok (.iload 5, 2) := by decide +kernel
theorem d_M_oneEach_96 : decode prog_14_method_104_code 96 = .ok (.if_icmp .eq 39, 3) := by decide +kernel
theorem d_M_oneEach_99 : decode prog_14_method_104_code 99 = .ok (.iload_n 3, 1) := by decide +kernel
theorem d_M_oneEach_100 : decode prog_14_method_104_code 100 = .ok (.ifCond .ge 35, 3) := by decide +kernel
theorem d_M_oneEach_103 : decode prog_14_method_104_code 103 = .ok (.iload_n 2, 1) := by decide +kernel
theorem d_M_oneEach_104 : decode prog_14_method_104_code 104 = .ok (.iload 6, 2) := by decide +kernel
theorem d_M_oneEach_106 : decode prog_14_method_104_code 106 = .ok (.ishr, 1) := by decide +kernel
theorem d_M_oneEach_107 : decode prog_14_method_104_code 107 = .ok (.iconst 1, 1) := by decide +kernel
theorem d_M_oneEach_108 : decode prog_14_method_104_code 108 = .ok (.iand, 1) := by decide +kernel
theorem d_M_oneEach_109 : decode prog_14_method_104_code 109 = .ok (.ifCond .ne 20, 3) := by decide +kernel
theorem d_M_oneEach_112 : decode prog_14_method_104_code 112 = .ok (.aload_n 0, 1) := by decide +kernel
theorem d_M_oneEach_113 : decode prog_14_method_104_code 113 = .ok (.iload 4, 2) := by decide +kernel
theorem d_M_oneEach_115 : decode prog_14_method_104_code 115 = .ok (.iload 6, 2) := by decide +kernel
theorem d_M_oneEach_117 : decode prog_14_method_104_code 117 = .ok (.iload_n 2, 1) := by decide +kernel
theorem d_M_oneEach_118 : decode prog_14_method_104_code 118 = .ok (.invokevirtual 485, 3) := by decide +kernel
theorem d_M_oneEach_121 : decode prog_14_method_104_code 121 = .ok (.iload 5, 2) := by decide +kernel
theorem d_M_oneEach_123 : decode prog_14_method_104_code 123 = .ok (.if_icmp .ne 6, 3) := by decide +kernel
theorem d_M_oneEach_126 : decode prog_14_method_104_code 126 = .ok (.iload 6, 2) := by decide +kernel
theorem d_M_oneEach_128 : decode prog_14_method_104_code 128 = .ok (.istore_n 3, 1) := by decide +kernel
theorem d_M_oneEach_129 : decode prog_14_method_104_code 129 = .ok (.iinc 6 1, 3) := by decide +kernel
theorem d_M_oneEach_132 : decode prog_14_method_104_code 132 = .ok (.goto (-67), 3) := by decide +kernel
theorem d_M_oneEach_135 : decode prog_14_method_104_code 135 = .ok (.iload_n 3, 1) := by decide +kernel
theorem d_M_oneEach_136 : decode prog_14_method_104_code 136 = .ok (.ifCond .lt 9, 3) := by decide +kernel
theorem d_M_oneEach_139 : decode prog_14_method_104_code 139 = .ok (.iload_n 2, 1) := by decide +kernel
theorem d_M_oneEach_140 : decode prog_14_method_104_code 140 = .ok (.iconst 1, 1) := by decide +kernel
theorem d_M_oneEach_141 : decode prog_14_method_104_code 141 = .ok (.iload_n 3, 1) := by decide +kernel
theorem d_M_oneEach_142 : decode prog_14_method_104_code 142 = .ok (.ishl, 1) := by decide +kernel
theorem d_M_oneEach_143 : decode prog_14_method_104_code 143 = .ok (.ior, 1) := by decide +kernel
theorem d_M_oneEach_144 : decode prog_14_method_104_code 144 = .ok (.istore_n 2, 1) := by decide +kernel
theorem d_M_oneEach_145 : decode prog_14_method_104_code 145 = .ok (.iinc 4 1, 3) := by decide +kernel
theorem d_M_oneEach_148 : decode prog_14_method_104_code 148 = .ok (.goto (-109), 3) := by decide +kernel
theorem d_M_oneEach_151 : decode prog_14_method_104_code 151 = .ok (.iload_n 3, 1) := by decide +kernel
theorem d_M_oneEach_152 : decode prog_14_method_104_code 152 = .ok (.ireturn, 1) := by decide +kernel
noncomputable def Lc_M_oneEach_1 : Xp Bool := cAnd (cAnd (o2 (fun x y => decide (x < y)) (vI 6) (aI 0 (gR 12 23 (vR 0)) (gI 12 18 (vR 0)))) (o2 (fun x y => decide (x ≠ y)) (aI 0 (gR 12 65 (vR 0)) (o2 (fun x y => x + y) (o2 (fun x y => x + y) (o2 (fun x y => x * y) (kI (ii 64)) (vI 4)) (kI (ii 64))) (vI 2))) (vI 5))) (o1 (fun x => decide (x < 0)) (vI 3))
noncomputable def Lb_M_oneEach_1 : Sm := sIf (cAnd (o1 (fun x => decide (x = 0)) (o2 (fun x y => x &&& y) (o2 (fun (x y : Int32) => x >>> (y &&& 31)) (vI 2) (vI 6)) (kI (ii 1)))) (o2 (fun x y => decide (x = y)) (cI (mV 12 D_M_eachWith) [asV Value.ref (vR 0), asV Value.int (vI 4), asV Value.int (vI 6), asV Value.int (vI 2)]) (vI 5))) (sSet 3 (asV Value.int (vI 6))) (sSkip)
noncomputable def Lu_M_oneEach_1 : Sm := sInc 6 (ii 1)
noncomputable def Lc_M_oneEach_2 : Xp Bool := o2 (fun x y => decide (x ≤ y)) (vI 4) (vI 1)
noncomputable def Lb_M_oneEach_2 : Sm := sBlk 5 (sSeq (sDecl (asV Value.int (aI 0 (gR 12 65 (vR 0)) (o2 (fun x y => x + y) (o2 (fun x y => x * y) (kI (ii 64)) (vI 4)) (vI 2))))) (sSeq (sSet 3 (asV Value.int (kI (ii (-2))))) (sSeq (sBlk 6 (sSeq (sDecl (asV Value.int (kI (ii 0)))) (sWh (Lc_M_oneEach_1) (Lb_M_oneEach_1) Lu_M_oneEach_1))) (sIf (o1 (fun x => decide (x ≥ 0)) (vI 3)) (sSet 2 (asV Value.int (o2 (fun x y => x ||| y) (vI 2) (o2 (fun (x y : Int32) => x <<< (y &&& 31)) (kI (ii 1)) (vI 3))))) (sSkip)))))
noncomputable def Lu_M_oneEach_2 : Sm := sInc 4 (ii 1)
noncomputable def F_M_oneEach : Sm := sSeq (sIf (cAnd (o2 (fun x y => decide (x ≠ y)) (vI 1) (kI (ii (-1)))) (cNot (o1 (fun x => decide (x ≠ 0)) (cI (mV 12 D_M_isGoer) [asV Value.ref (vR 0), asV Value.int (vI 1)])))) (sRet (asV Value.int (kI (ii (-1))))) (sSkip)) (sSeq (sCall (mV 12 D_M_fillsEach) [asV Value.ref (vR 0)]) (sSeq (sIf (o2 (fun x y => decide (x = y)) (vI 1) (kI (ii (-1)))) (sRet (asV Value.int (aI 0 (gR 12 65 (vR 0)) (kI (ii 0))))) (sSkip)) (sSeq (sDecl (asV Value.int (kI (ii 0)))) (sSeq (sDecl (asV Value.int (kI (ii (-2))))) (sSeq (sBlk 4 (sSeq (sDecl (asV Value.int (kI (ii 0)))) (sWh (Lc_M_oneEach_2) (Lb_M_oneEach_2) Lu_M_oneEach_2))) (sRet (asV Value.int (vI 3))))))))
theorem mf_M_oneEach : Mf y_M_oneEach prog_14_method_104_code 7 (some .int) 1 := ⟨tw_1942, tw_134, by decide +kernel⟩
noncomputable def D_M_oneEach : Dn := runS [1, 1] F_M_oneEach
theorem ok_M_oneEach : MOK y_M_oneEach prog_14_method_104_code 7 (some .int) 5 0 0 D_M_oneEach := MOK.of (by decide) (by decide) (show SO Y_M_oneEach [(0, 1), (1, 1)] [(0, 1), (1, 1), (2, 1), (3, 1)] 0 153 (([], 0), ([], 0)) F_M_oneEach from
  (s_seq (sl1 := [(0, 1), (1, 1)]) (p1 := 15) (s_if (pt := 13) (pf := 15) (c_and (p1 := 5) (c_icmp_eqF (p1 := 1) (p2 := 2) (tg := 15) (e_iload_n (k0 := 1) d_M_oneEach_0 rfl rfl) (e_iconst d_M_oneEach_1 (by decide)) d_M_oneEach_2 rfl) (c_not (c_if_neT (p1 := 10) (tg := 15) (e_cI (p1 := 7) (a_cons (ι := Value.ref) (k0 := 1) (p1 := 6) (fun _ => rfl) (e_aload_n (k0 := 0) d_M_oneEach_5 rfl rfl) (a_cons (ι := Value.int) (k0 := 1) (p1 := 7) (fun _ => rfl) (e_iload_n (k0 := 1) d_M_oneEach_6 rfl rfl) a_nil)) (k_virt ok_M_isGoer mf_M_isGoer ⟨tw_1715, tw_75⟩ rfl tw_1713 d_M_oneEach_7 (by decide) (by decide) (by decide))) d_M_oneEach_10 rfl))) (s_ret (p1 := 14) (e_iconst d_M_oneEach_13 (by decide)) rfl d_M_oneEach_14) s_skip) (s_seq (sl1 := [(0, 1), (1, 1)]) (p1 := 19) (s_call (p1 := 16) (a_cons (ι := Value.ref) (k0 := 1) (p1 := 16) (fun _ => rfl) (e_aload_n (k0 := 0) d_M_oneEach_15 rfl rfl) a_nil) (k_virt ok_M_fillsEach mf_M_fillsEach ⟨tw_1945, tw_114⟩ rfl tw_1943 d_M_oneEach_16 (by decide) (by decide) (by decide))) (s_seq (sl1 := [(0, 1), (1, 1)]) (p1 := 31) (s_if (pt := 24) (pf := 31) (c_icmp_neF (p1 := 20) (p2 := 21) (tg := 31) (e_iload_n (k0 := 1) d_M_oneEach_19 rfl rfl) (e_iconst d_M_oneEach_20 (by decide)) d_M_oneEach_21 rfl) (s_ret (p1 := 30) (e_iald (p1 := 28) (p2 := 29) (e_gR (k0 := 65) (p1 := 25) cf_12 (e_aload_n (k0 := 0) d_M_oneEach_24 rfl rfl) (by decide) tw_1425 d_M_oneEach_25) (e_iconst d_M_oneEach_28 (by decide)) d_M_oneEach_29) rfl d_M_oneEach_30) s_skip) (s_seq (sl1 := [(0, 1), (1, 1), (2, 1)]) (p1 := 33) (s_decl (p1 := 32) (e_iconst d_M_oneEach_31 (by decide)) (t_istore_n d_M_oneEach_32 rfl (by decide)) rfl) (s_seq (sl1 := [(0, 1), (1, 1), (2, 1), (3, 1)]) (p1 := 36) (s_decl (p1 := 35) (e_bipush d_M_oneEach_33 (by decide)) (t_istore_n d_M_oneEach_35 rfl (by decide)) rfl) (s_seq (sl1 := [(0, 1), (1, 1), (2, 1), (3, 1)]) (p1 := 151) (s_blk (sl1 := [(0, 1), (1, 1), (2, 1), (3, 1), (4, 1)]) (s_seq (sl1 := [(0, 1), (1, 1), (2, 1), (3, 1), (4, 1)]) (p1 := 39) (s_decl (p1 := 37) (e_iconst d_M_oneEach_36 (by decide)) (t_istore d_M_oneEach_37 (by decide)) rfl) (s_for (pt := 45) (pu := 145) (pf := 151) (pg := 0) (c_icmp_gtF (p1 := 41) (p2 := 42) (tg := 151) (e_iload (k0 := 4) d_M_oneEach_39 rfl) (e_iload_n (k0 := 1) d_M_oneEach_41 rfl rfl) d_M_oneEach_42 rfl) (s_blk (sl1 := [(0, 1), (1, 1), (2, 1), (3, 1), (4, 1), (5, 1)]) (s_seq (sl1 := [(0, 1), (1, 1), (2, 1), (3, 1), (4, 1), (5, 1)]) (p1 := 59) (s_decl (p1 := 57) (e_iald (p1 := 49) (p2 := 56) (e_gR (k0 := 65) (p1 := 46) cf_12 (e_aload_n (k0 := 0) d_M_oneEach_45 rfl rfl) (by decide) tw_1425 d_M_oneEach_46) (e_iadd (p1 := 54) (p2 := 55) (e_imul (p1 := 51) (p2 := 53) (e_bipush d_M_oneEach_49 (by decide)) (e_iload (k0 := 4) d_M_oneEach_51 rfl) d_M_oneEach_53) (e_iload_n (k0 := 2) d_M_oneEach_54 rfl rfl) d_M_oneEach_55) d_M_oneEach_56) (t_istore d_M_oneEach_57 (by decide)) rfl) (s_seq (sl1 := [(0, 1), (1, 1), (2, 1), (3, 1), (4, 1), (5, 1)]) (p1 := 62) (s_set (k0 := 3) (p1 := 61) (e_bipush d_M_oneEach_59 (by decide)) (t_istore_n d_M_oneEach_61 rfl (by decide)) rfl rfl) (s_seq (sl1 := [(0, 1), (1, 1), (2, 1), (3, 1), (4, 1), (5, 1)]) (p1 := 135) (s_blk (sl1 := [(0, 1), (1, 1), (2, 1), (3, 1), (4, 1), (5, 1), (6, 1)]) (s_seq (sl1 := [(0, 1), (1, 1), (2, 1), (3, 1), (4, 1), (5, 1), (6, 1)]) (p1 := 65) (s_decl (p1 := 63) (e_iconst d_M_oneEach_62 (by decide)) (t_istore d_M_oneEach_63 (by decide)) rfl) (s_for (pt := 103) (pu := 129) (pf := 135) (pg := 0) (c_and (p1 := 99) (c_and (p1 := 79) (c_icmp_geF (p1 := 67) (p2 := 76) (tg := 135) (e_iload (k0 := 6) d_M_oneEach_65 rfl) (e_iald (p1 := 71) (p2 := 75) (e_gR (k0 := 23) (p1 := 68) cf_12 (e_aload_n (k0 := 0) d_M_oneEach_67 rfl rfl) (by decide) tw_1383 d_M_oneEach_68) (e_gI (k0 := 18) (p1 := 72) cf_12 (e_aload_n (k0 := 0) d_M_oneEach_71 rfl rfl) (by decide) tw_1378 d_M_oneEach_72) d_M_oneEach_75) d_M_oneEach_76 rfl) (c_icmp_eqF (p1 := 94) (p2 := 96) (tg := 135) (e_iald (p1 := 83) (p2 := 93) (e_gR (k0 := 65) (p1 := 80) cf_12 (e_aload_n (k0 := 0) d_M_oneEach_79 rfl rfl) (by decide) tw_1425 d_M_oneEach_80) (e_iadd (p1 := 91) (p2 := 92) (e_iadd (p1 := 88) (p2 := 90) (e_imul (p1 := 85) (p2 := 87) (e_bipush d_M_oneEach_83 (by decide)) (e_iload (k0 := 4) d_M_oneEach_85 rfl) d_M_oneEach_87) (e_bipush d_M_oneEach_88 (by decide)) d_M_oneEach_90) (e_iload_n (k0 := 2) d_M_oneEach_91 rfl rfl) d_M_oneEach_92) d_M_oneEach_93) (e_iload (k0 := 5) d_M_oneEach_94 rfl) d_M_oneEach_96 rfl)) (c_if_geF (p1 := 100) (tg := 135) (e_iload_n (k0 := 3) d_M_oneEach_99 rfl rfl) d_M_oneEach_100 rfl)) (s_if (pt := 126) (pf := 129) (c_and (p1 := 112) (c_if_neF (p1 := 109) (tg := 129) (e_iand (p1 := 107) (p2 := 108) (e_ishr (p1 := 104) (p2 := 106) (e_iload_n (k0 := 2) d_M_oneEach_103 rfl rfl) (e_iload (k0 := 6) d_M_oneEach_104 rfl) d_M_oneEach_106) (e_iconst d_M_oneEach_107 (by decide)) d_M_oneEach_108) d_M_oneEach_109 rfl) (c_icmp_neF (p1 := 121) (p2 := 123) (tg := 129) (e_cI (p1 := 118) (a_cons (ι := Value.ref) (k0 := 1) (p1 := 113) (fun _ => rfl) (e_aload_n (k0 := 0) d_M_oneEach_112 rfl rfl) (a_cons (ι := Value.int) (k0 := 1) (p1 := 115) (fun _ => rfl) (e_iload (k0 := 4) d_M_oneEach_113 rfl) (a_cons (ι := Value.int) (k0 := 1) (p1 := 117) (fun _ => rfl) (e_iload (k0 := 6) d_M_oneEach_115 rfl) (a_cons (ι := Value.int) (k0 := 1) (p1 := 118) (fun _ => rfl) (e_iload_n (k0 := 2) d_M_oneEach_117 rfl rfl) a_nil)))) (k_virt ok_M_eachWith mf_M_eachWith ⟨tw_1949, tw_115⟩ rfl tw_1947 d_M_oneEach_118 (by decide) (by decide) (by decide))) (e_iload (k0 := 5) d_M_oneEach_121 rfl) d_M_oneEach_123 rfl)) (s_set (k0 := 3) (p1 := 128) (e_iload (k0 := 6) d_M_oneEach_126 rfl) (t_istore_n d_M_oneEach_128 rfl (by decide)) rfl rfl) s_skip) (s_goto (p1 := 132) (s_inc (k0 := 6) d_M_oneEach_129 rfl rfl (Nat.le_of_ble_eq_true rfl) rfl) d_M_oneEach_132 rfl))) rfl) (s_if (pt := 139) (pf := 145) (c_if_ltF (p1 := 136) (tg := 145) (e_iload_n (k0 := 3) d_M_oneEach_135 rfl rfl) d_M_oneEach_136 rfl) (s_set (k0 := 2) (p1 := 144) (e_ior (p1 := 140) (p2 := 143) (e_iload_n (k0 := 2) d_M_oneEach_139 rfl rfl) (e_ishl (p1 := 141) (p2 := 142) (e_iconst d_M_oneEach_140 (by decide)) (e_iload_n (k0 := 3) d_M_oneEach_141 rfl rfl) d_M_oneEach_142) d_M_oneEach_143) (t_istore_n d_M_oneEach_144 rfl (by decide)) rfl rfl) s_skip)))) rfl) (s_goto (p1 := 148) (s_inc (k0 := 4) d_M_oneEach_145 rfl rfl (Nat.le_of_ble_eq_true rfl) rfl) d_M_oneEach_148 rfl))) rfl) (s_ret (p1 := 152) (e_iload_n (k0 := 3) d_M_oneEach_151 rfl rfl) rfl d_M_oneEach_152))))))))

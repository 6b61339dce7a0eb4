/-! Methods: bytes, denotations, that the bytes do so (written by wip/whole/jgen.py). -/
/-! BlinkerCross$Givings.fillGains()V -/
abbrev y_Givings_fillGains : MethodName := ⟨"BlinkerCross$Givings", "fillGains", "()V"⟩
abbrev Y_Givings_fillGains : Yt := (prog_3_method_5_code, 4, "BlinkerCross$Givings", 4, none, "fillGains")
theorem d_Givings_fillGains_0 : decode prog_3_method_5_code 0 = .ok (.aload_n 0, 1) := by decide +kernel
theorem d_Givings_fillGains_1 : decode prog_3_method_5_code 1 = .ok (.getfield 30, 3) := by decide +kernel
theorem d_Givings_fillGains_4 : decode prog_3_method_5_code 4 = .ok (.aload_n 0, 1) := by decide +kernel
theorem d_Givings_fillGains_5 : decode prog_3_method_5_code 5 = .ok (.getfield 41, 3) := by decide +kernel
theorem d_Givings_fillGains_8 : decode prog_3_method_5_code 8 = .ok (.getfield 49, 3) := by decide +kernel
theorem d_Givings_fillGains_11 : decode prog_3_method_5_code 11 = .ok (.if_icmp .ne 4, 3) := by decide +kernel
theorem d_Givings_fillGains_14 : decode prog_3_method_5_code 14 = .ok (.return_, 1) := by decide +kernel
theorem d_Givings_fillGains_15 : decode prog_3_method_5_code 15 = .ok (.aload_n 0, 1) := by decide +kernel
theorem d_Givings_fillGains_16 : decode prog_3_method_5_code 16 = .ok (.aload_n 0, 1) := by decide +kernel
theorem d_Givings_fillGains_17 : decode prog_3_method_5_code 17 = .ok (.getfield 41, 3) := by decide +kernel
theorem d_Givings_fillGains_20 : decode prog_3_method_5_code 20 = .ok (.getfield 49, 3) := by decide +kernel
theorem d_Givings_fillGains_23 : decode prog_3_method_5_code 23 = .ok (.putfield 30, 3) := by decide +kernel
theorem d_Givings_fillGains_26 : decode prog_3_method_5_code 26 = .ok (.iconst 0, 1) := by decide +kernel
theorem d_Givings_fillGains_27 : decode prog_3_method_5_code 27 = .ok (.istore_n 1, 1) := by decide +kernel
theorem d_Givings_fillGains_28 : decode prog_3_method_5_code 28 = .ok (.iload_n 1, 1) := by decide +kernel
theorem d_Givings_fillGains_29 : decode prog_3_method_5_code 29 = .ok (.aload_n 0, 1) := by decide +kernel
theorem d_Givings_fillGains_30 : decode prog_3_method_5_code 30 = .ok (.getfield 37, 3) := by decide +kernel
theorem d_Givings_fillGains_33 : decode prog_3_method_5_code 33 = .ok (.getfield 77, 3) := by decide +kernel
theorem d_Givings_fillGains_36 : decode prog_3_method_5_code 36 = .ok (.if_icmp .ge 92, 3) := by decide +kernel
theorem d_Givings_fillGains_39 : decode prog_3_method_5_code 39 = .ok (.aload_n 0, 1) := by decide +kernel
theorem d_Givings_fillGains_40 : decode prog_3_method_5_code 40 = .ok (.getfield 18, 3) := by decide +kernel
theorem d_Givings_fillGains_43 : decode prog_3_method_5_code 43 = .ok (.iload_n 1, 1) := by decide +kernel
theorem d_Givings_fillGains_44 : decode prog_3_method_5_code 44 = .ok (.aload_n 0, 1) := by decide +kernel
theorem d_Givings_fillGains_45 : decode prog_3_method_5_code 45 = .ok (.getfield 41, 3) := by decide +kernel
theorem d_Givings_fillGains_48 : decode prog_3_method_5_code 48 = .ok (.iload_n 1, 1) := by decide +kernel
theorem d_Givings_fillGains_49 : decode prog_3_method_5_code 49 = .ok (.invokevirtual 102, 3) := by decide +kernel
theorem d_Givings_fillGains_52 : decode prog_3_method_5_code 52 = .ok (.iastore, 1) := by decide +kernel
theorem d_Givings_fillGains_53 : decode prog_3_method_5_code 53 = .ok (.iconst 0, 1) := by decide +kernel
theorem d_Givings_fillGains_54 : decode prog_3_method_5_code 54 = .ok (.istore_n 2, 1) := by decide +kernel
theorem d_Givings_fillGains_55 : decode prog_3_method_5_code 55 = .ok (.iload_n 2, 1) := by decide +kernel
theorem d_Givings_fillGains_56 : decode prog_3_method_5_code 56 = .ok (.aload_n 0, 1) := by decide +kernel
theorem d_Givings_fillGains_57 : decode prog_3_method_5_code 57 = .ok (.getfield 37, 3) := by decide +kernel
theorem d_Givings_fillGains_60 : decode prog_3_method_5_code 60 = .ok (.getfield 99, 3) := by decide +kernel
theorem d_Givings_fillGains_63 : decode prog_3_method_5_code 63 = .ok (.if_icmp .ge 59, 3) := by decide +kernel
theorem d_Givings_fillGains_66 : decode prog_3_method_5_code 66 = .ok (.iconst 1, 1) := by decide +kernel
theorem d_Givings_fillGains_67 : decode prog_3_method_5_code 67 = .ok (.istore_n 3, 1) := by decide +kernel
theorem d_Givings_fillGains_68 : decode prog_3_method_5_code 68 = .ok (.iload_n 3, 1) := by decide +kernel
theorem d_Givings_fillGains_69 : decode prog_3_method_5_code 69 = .ok (.aload_n 0, 1) := by decide +kernel
theorem d_Givings_fillGains_70 : decode prog_3_method_5_code 70 = .ok (.getfield 37, 3) := by decide +kernel
theorem d_Givings_fillGains_73 : decode prog_3_method_5_code 73 = .ok (.getfield 77, 3) := by decide +kernel
theorem d_Givings_fillGains_76 : decode prog_3_method_5_code 76 = .ok (.if_icmp .gt 40, 3) := by decide +kernel
theorem d_Givings_fillGains_79 : decode prog_3_method_5_code 79 = .ok (.aload_n 0, 1) := by decide +kernel
theorem d_Givings_fillGains_80 : decode prog_3_method_5_code 80 = .ok (.getfield 21, 3) := by decide +kernel
theorem d_Givings_fillGains_83 : decode prog_3_method_5_code 83 = .ok (.iload_n 1, 1) := by decide +kernel
theorem d_Givings_fillGains_84 : decode prog_3_method_5_code 84 = .ok (.bipush 6, 2) := by decide +kernel
theorem d_Givings_fillGains_86 : decode prog_3_method_5_code 86 = .ok (.imul, 1) := by decide +kernel
theorem d_Givings_fillGains_87 : decode prog_3_method_5_code 87 = .ok (.iload_n 2, 1) := by decide +kernel
theorem d_Givings_fillGains_88 : decode prog_3_method_5_code 88 = .ok (.iadd, 1) := by decide +kernel
theorem d_Givings_fillGains_89 : decode prog_3_method_5_code 89 = .ok (.iconst 5, 1) := by decide +kernel
theorem d_Givings_fillGains_90 : decode prog_3_method_5_code 90 = .ok (.imul, 1) := by decide +kernel
theorem d_Givings_fillGains_91 : decode prog_3_method_5_code 91 = .ok (.iload_n 3, 1) := by decide +kernel
theorem d_Givings_fillGains_92 : decode prog_3_method_5_code 92 = .ok (.iadd, 1) := by decide +kernel
theorem d_Givings_fillGains_93 : decode prog_3_method_5_code 93 = .ok (.iconst 1, 1) := by decide +kernel
theorem d_Givings_fillGains_94 : decode prog_3_method_5_code 94 = .ok (.isub, 1) := by decide +kernel
theorem d_Givings_fillGains_95 : decode prog_3_method_5_code 95 = .ok (.aload_n 0, 1) := by decide +kernel
theorem d_Givings_fillGains_96 : decode prog_3_method_5_code 96 = .ok (.getfield 45, 3) := by decide +kernel
theorem d_Givings_fillGains_99 : decode prog_3_method_5_code 99 = .ok (.aload_n 0, 1) := by decide +kernel
theorem d_Givings_fillGains_100 : decode prog_3_method_5_code 100 = .ok (.getfield 41, 3) := by decide +kernel
theorem d_Givings_fillGains_103 : decode prog_3_method_5_code 103 = .ok (.iload_n 1, 1) := by decide +kernel
theorem d_Givings_fillGains_104 : decode prog_3_method_5_code 104 = .ok (.iload_n 2, 1) := by decide +kernel
theorem d_Givings_fillGains_105 : decode prog_3_method_5_code 105 = .ok (.iload_n 3, 1) := by decide +kernel
theorem d_Givings_fillGains_106 : decode prog_3_method_5_code 106 = .ok (.invokevirtual 105, 3) := by decide +kernel
theorem d_Givings_fillGains_109 : decode prog_3_method_5_code 109 = .ok (.iastore, 1) := by decide +kernel
theorem d_Givings_fillGains_110 : decode prog_3_method_5_code 110 = .ok (.iinc 3 1, 3) := by decide +kernel
theorem d_Givings_fillGains_113 : decode prog_3_method_5_code 113 = .ok (.goto (-45), 3) := by decide +kernel
theorem d_Givings_fillGains_116 : decode prog_3_method_5_code 116 = .ok (.iinc 2 1, 3) := by decide +kernel
theorem d_Givings_fillGains_119 : decode prog_3_method_5_code 119 = .ok (.goto (-64), 3) := by decide +kernel
theorem d_Givings_fillGains_122 : decode prog_3_method_5_code 122 = .ok (.iinc 1 1, 3) := by decide +kernel
theorem d_Givings_fillGains_125 : decode prog_3_method_5_code 125 = .ok (.goto (-97), 3) := by decide +kernel
theorem d_Givings_fillGains_128 : decode prog_3_method_5_code 128 = .ok (.return_, 1) := by decide +kernel
noncomputable def Lc_Givings_fillGains_1 : Xp Bool := o2 (fun x y => decide (x ≤ y)) (vI 3) (gI 2 1 (gR 8 5 (vR 0)))
noncomputable def Lb_Givings_fillGains_1 : Sm := sAst 0 (gR 8 9 (vR 0)) (o2 (fun x y => x - y) (o2 (fun x y => x + y) (o2 (fun x y => x * y) (o2 (fun x y => x + y) (o2 (fun x y => x * y) (vI 1) (kI (ii 6))) (vI 2)) (kI (ii 5))) (vI 3)) (kI (ii 1))) (cI (mV 5 D_Laws_gainOf) [asV Value.ref (gR 8 7 (vR 0)), asV Value.ref (gR 8 6 (vR 0)), asV Value.int (vI 1), asV Value.int (vI 2), asV Value.int (vI 3)])
noncomputable def Lu_Givings_fillGains_1 : Sm := sInc 3 (ii 1)
noncomputable def Lc_Givings_fillGains_2 : Xp Bool := o2 (fun x y => decide (x < y)) (vI 2) (gI 2 0 (gR 8 5 (vR 0)))
noncomputable def Lb_Givings_fillGains_2 : Sm := sBlk 3 (sSeq (sDecl (asV Value.int (kI (ii 1)))) (sWh (Lc_Givings_fillGains_1) (Lb_Givings_fillGains_1) Lu_Givings_fillGains_1))
noncomputable def Lu_Givings_fillGains_2 : Sm := sInc 2 (ii 1)
noncomputable def Lc_Givings_fillGains_3 : Xp Bool := o2 (fun x y => decide (x < y)) (vI 1) (gI 2 1 (gR 8 5 (vR 0)))
noncomputable def Lb_Givings_fillGains_3 : Sm := sSeq (sAst 0 (gR 8 8 (vR 0)) (vI 1) (cI (mV 4 D_Scene_seenBits) [asV Value.ref (gR 8 6 (vR 0)), asV Value.int (vI 1)])) (sBlk 2 (sSeq (sDecl (asV Value.int (kI (ii 0)))) (sWh (Lc_Givings_fillGains_2) (Lb_Givings_fillGains_2) Lu_Givings_fillGains_2)))
noncomputable def Lu_Givings_fillGains_3 : Sm := sInc 1 (ii 1)
noncomputable def F_Givings_fillGains : Sm := sSeq (sIf (o2 (fun x y => decide (x = y)) (gI 8 13 (vR 0)) (gI 4 3 (gR 8 6 (vR 0)))) (sRetV) (sSkip)) (sSeq (sPut 8 13 (vR 0) (asV Value.int (gI 4 3 (gR 8 6 (vR 0))))) (sSeq (sBlk 1 (sSeq (sDecl (asV Value.int (kI (ii 0)))) (sWh (Lc_Givings_fillGains_3) (Lb_Givings_fillGains_3) Lu_Givings_fillGains_3))) (sRetV)))
theorem mf_Givings_fillGains : Mf y_Givings_fillGains prog_3_method_5_code 4 none 0 := ⟨tw_1087, tw_130, by decide +kernel⟩
noncomputable def D_Givings_fillGains : Dn := runS [1] F_Givings_fillGains
theorem ok_Givings_fillGains : MOK y_Givings_fillGains prog_3_method_5_code 4 none 4 0 0 D_Givings_fillGains := MOK.of (by decide) (by decide) (show SO Y_Givings_fillGains [(0, 1)] [(0, 1)] 0 129 (([], 0), ([], 0)) F_Givings_fillGains from
  (s_seq (sl1 := [(0, 1)]) (p1 := 15) (s_if (pt := 14) (pf := 15) (c_icmp_neF (p1 := 4) (p2 := 11) (tg := 15) (e_gI (k0 := 13) (p1 := 1) cf_8 (e_aload_n (k0 := 0) d_Givings_fillGains_0 rfl rfl) (by decide) tw_456 d_Givings_fillGains_1) (e_gI (k0 := 3) (p1 := 8) cf_4 (e_gR (k0 := 6) (p1 := 5) cf_8 (e_aload_n (k0 := 0) d_Givings_fillGains_4 rfl rfl) (by decide) tw_449 d_Givings_fillGains_5) (by decide) tw_331 d_Givings_fillGains_8) d_Givings_fillGains_11 rfl) (s_retV rfl d_Givings_fillGains_14) s_skip) (s_seq (sl1 := [(0, 1)]) (p1 := 26) (s_put (k0 := 13) (p1 := 16) (p2 := 23) cf_8 (e_aload_n (k0 := 0) d_Givings_fillGains_15 rfl rfl) (e_gI (k0 := 3) (p1 := 20) cf_4 (e_gR (k0 := 6) (p1 := 17) cf_8 (e_aload_n (k0 := 0) d_Givings_fillGains_16 rfl rfl) (by decide) tw_449 d_Givings_fillGains_17) (by decide) tw_331 d_Givings_fillGains_20) (by decide) fk_i tw_456 (Or.inl rfl) d_Givings_fillGains_23) (s_seq (sl1 := [(0, 1)]) (p1 := 128) (s_blk (sl1 := [(0, 1), (1, 1)]) (s_seq (sl1 := [(0, 1), (1, 1)]) (p1 := 28) (s_decl (p1 := 27) (e_iconst d_Givings_fillGains_26 (by decide)) (t_istore_n d_Givings_fillGains_27 rfl (by decide)) rfl) (s_for (pt := 39) (pu := 122) (pf := 128) (pg := 0) (c_icmp_geF (p1 := 29) (p2 := 36) (tg := 128) (e_iload_n (k0 := 1) d_Givings_fillGains_28 rfl rfl) (e_gI (k0 := 1) (p1 := 33) cf_2 (e_gR (k0 := 5) (p1 := 30) cf_8 (e_aload_n (k0 := 0) d_Givings_fillGains_29 rfl rfl) (by decide) tw_448 d_Givings_fillGains_30) (by decide) tw_207 d_Givings_fillGains_33) d_Givings_fillGains_36 rfl) (s_seq (sl1 := [(0, 1), (1, 1)]) (p1 := 53) (s_ast (p1 := 43) (p2 := 44) (p3 := 52) (e_gR (k0 := 8) (p1 := 40) cf_8 (e_aload_n (k0 := 0) d_Givings_fillGains_39 rfl rfl) (by decide) tw_451 d_Givings_fillGains_40) (e_iload_n (k0 := 1) d_Givings_fillGains_43 rfl rfl) (e_cI (p1 := 49) (a_cons (ι := Value.ref) (k0 := 1) (p1 := 48) (fun _ => rfl) (e_gR (k0 := 6) (p1 := 45) cf_8 (e_aload_n (k0 := 0) d_Givings_fillGains_44 rfl rfl) (by decide) tw_449 d_Givings_fillGains_45) (a_cons (ι := Value.int) (k0 := 1) (p1 := 49) (fun _ => rfl) (e_iload_n (k0 := 1) d_Givings_fillGains_48 rfl rfl) a_nil)) (k_virt ok_Scene_seenBits mf_Scene_seenBits ⟨tw_897, tw_898⟩ rfl tw_1088 d_Givings_fillGains_49 (by decide) (by decide) (by decide))) (as_i d_Givings_fillGains_52)) (s_blk (sl1 := [(0, 1), (1, 1), (2, 1)]) (s_seq (sl1 := [(0, 1), (1, 1), (2, 1)]) (p1 := 55) (s_decl (p1 := 54) (e_iconst d_Givings_fillGains_53 (by decide)) (t_istore_n d_Givings_fillGains_54 rfl (by decide)) rfl) (s_for (pt := 66) (pu := 116) (pf := 122) (pg := 0) (c_icmp_geF (p1 := 56) (p2 := 63) (tg := 122) (e_iload_n (k0 := 2) d_Givings_fillGains_55 rfl rfl) (e_gI (k0 := 0) (p1 := 60) cf_2 (e_gR (k0 := 5) (p1 := 57) cf_8 (e_aload_n (k0 := 0) d_Givings_fillGains_56 rfl rfl) (by decide) tw_448 d_Givings_fillGains_57) (by decide) tw_199 d_Givings_fillGains_60) d_Givings_fillGains_63 rfl) (s_blk (sl1 := [(0, 1), (1, 1), (2, 1), (3, 1)]) (s_seq (sl1 := [(0, 1), (1, 1), (2, 1), (3, 1)]) (p1 := 68) (s_decl (p1 := 67) (e_iconst d_Givings_fillGains_66 (by decide)) (t_istore_n d_Givings_fillGains_67 rfl (by decide)) rfl) (s_for (pt := 79) (pu := 110) (pf := 116) (pg := 0) (c_icmp_gtF (p1 := 69) (p2 := 76) (tg := 116) (e_iload_n (k0 := 3) d_Givings_fillGains_68 rfl rfl) (e_gI (k0 := 1) (p1 := 73) cf_2 (e_gR (k0 := 5) (p1 := 70) cf_8 (e_aload_n (k0 := 0) d_Givings_fillGains_69 rfl rfl) (by decide) tw_448 d_Givings_fillGains_70) (by decide) tw_207 d_Givings_fillGains_73) d_Givings_fillGains_76 rfl) (s_ast (p1 := 83) (p2 := 95) (p3 := 109) (e_gR (k0 := 9) (p1 := 80) cf_8 (e_aload_n (k0 := 0) d_Givings_fillGains_79 rfl rfl) (by decide) tw_452 d_Givings_fillGains_80) (e_isub (p1 := 93) (p2 := 94) (e_iadd (p1 := 91) (p2 := 92) (e_imul (p1 := 89) (p2 := 90) (e_iadd (p1 := 87) (p2 := 88) (e_imul (p1 := 84) (p2 := 86) (e_iload_n (k0 := 1) d_Givings_fillGains_83 rfl rfl) (e_bipush d_Givings_fillGains_84 (by decide)) d_Givings_fillGains_86) (e_iload_n (k0 := 2) d_Givings_fillGains_87 rfl rfl) d_Givings_fillGains_88) (e_iconst d_Givings_fillGains_89 (by decide)) d_Givings_fillGains_90) (e_iload_n (k0 := 3) d_Givings_fillGains_91 rfl rfl) d_Givings_fillGains_92) (e_iconst d_Givings_fillGains_93 (by decide)) d_Givings_fillGains_94) (e_cI (p1 := 106) (a_cons (ι := Value.ref) (k0 := 1) (p1 := 99) (fun _ => rfl) (e_gR (k0 := 7) (p1 := 96) cf_8 (e_aload_n (k0 := 0) d_Givings_fillGains_95 rfl rfl) (by decide) tw_450 d_Givings_fillGains_96) (a_cons (ι := Value.ref) (k0 := 1) (p1 := 103) (fun _ => rfl) (e_gR (k0 := 6) (p1 := 100) cf_8 (e_aload_n (k0 := 0) d_Givings_fillGains_99 rfl rfl) (by decide) tw_449 d_Givings_fillGains_100) (a_cons (ι := Value.int) (k0 := 1) (p1 := 104) (fun _ => rfl) (e_iload_n (k0 := 1) d_Givings_fillGains_103 rfl rfl) (a_cons (ι := Value.int) (k0 := 1) (p1 := 105) (fun _ => rfl) (e_iload_n (k0 := 2) d_Givings_fillGains_104 rfl rfl) (a_cons (ι := Value.int) (k0 := 1) (p1 := 106) (fun _ => rfl) (e_iload_n (k0 := 3) d_Givings_fillGains_105 rfl rfl) a_nil))))) (k_virt ok_Laws_gainOf mf_Laws_gainOf ⟨tw_1090, tw_1091⟩ rfl tw_1089 d_Givings_fillGains_106 (by decide) (by decide) (by decide))) (as_i d_Givings_fillGains_109)) (s_goto (p1 := 113) (s_inc (k0 := 3) d_Givings_fillGains_110 rfl rfl (Nat.le_of_ble_eq_true rfl) rfl) d_Givings_fillGains_113 rfl))) rfl) (s_goto (p1 := 119) (s_inc (k0 := 2) d_Givings_fillGains_116 rfl rfl (Nat.le_of_ble_eq_true rfl) rfl) d_Givings_fillGains_119 rfl))) rfl)) (s_goto (p1 := 125) (s_inc (k0 := 1) d_Givings_fillGains_122 rfl rfl (Nat.le_of_ble_eq_true rfl) rfl) d_Givings_fillGains_125 rfl))) rfl) (s_retV rfl d_Givings_fillGains_128)))))
/-! BlinkerCross$Givings.clearTakers()V -/
abbrev y_Givings_clearTakers : MethodName := ⟨"BlinkerCross$Givings", "clearTakers", "()V"⟩
abbrev Y_Givings_clearTakers : Yt := (prog_3_method_7_code, 2, "BlinkerCross$Givings", 0, none, "clearTakers")
theorem d_Givings_clearTakers_0 : decode prog_3_method_7_code 0 = .ok (.iconst 0, 1) := by decide +kernel
theorem d_Givings_clearTakers_1 : decode prog_3_method_7_code 1 = .ok (.istore_n 1, 1) := by decide +kernel
theorem d_Givings_clearTakers_2 : decode prog_3_method_7_code 2 = .ok (.iload_n 1, 1) := by decide +kernel
theorem d_Givings_clearTakers_3 : decode prog_3_method_7_code 3 = .ok (.bipush 6, 2) := by decide +kernel
theorem d_Givings_clearTakers_5 : decode prog_3_method_7_code 5 = .ok (.if_icmp .ge 16, 3) := by decide +kernel
theorem d_Givings_clearTakers_8 : decode prog_3_method_7_code 8 = .ok (.aload_n 0, 1) := by decide +kernel
theorem d_Givings_clearTakers_9 : decode prog_3_method_7_code 9 = .ok (.getfield 27, 3) := by decide +kernel
theorem d_Givings_clearTakers_12 : decode prog_3_method_7_code 12 = .ok (.iload_n 1, 1) := by decide +kernel
theorem d_Givings_clearTakers_13 : decode prog_3_method_7_code 13 = .ok (.iconst 0, 1) := by decide +kernel
theorem d_Givings_clearTakers_14 : decode prog_3_method_7_code 14 = .ok (.iastore, 1) := by decide +kernel
theorem d_Givings_clearTakers_15 : decode prog_3_method_7_code 15 = .ok (.iinc 1 1, 3) := by decide +kernel
theorem d_Givings_clearTakers_18 : decode prog_3_method_7_code 18 = .ok (.goto (-16), 3) := by decide +kernel
theorem d_Givings_clearTakers_21 : decode prog_3_method_7_code 21 = .ok (.return_, 1) := by decide +kernel
noncomputable def Lc_Givings_clearTakers_1 : Xp Bool := o2 (fun x y => decide (x < y)) (vI 1) (kI (ii 6))
noncomputable def Lb_Givings_clearTakers_1 : Sm := sAst 0 (gR 8 11 (vR 0)) (vI 1) (kI (ii 0))
noncomputable def Lu_Givings_clearTakers_1 : Sm := sInc 1 (ii 1)
noncomputable def F_Givings_clearTakers : Sm := sSeq (sBlk 1 (sSeq (sDecl (asV Value.int (kI (ii 0)))) (sWh (Lc_Givings_clearTakers_1) (Lb_Givings_clearTakers_1) Lu_Givings_clearTakers_1))) (sRetV)
theorem mf_Givings_clearTakers : Mf y_Givings_clearTakers prog_3_method_7_code 2 none 0 := ⟨tw_1096, tw_130, by decide +kernel⟩
noncomputable def D_Givings_clearTakers : Dn := runS [1] F_Givings_clearTakers
theorem ok_Givings_clearTakers : MOK y_Givings_clearTakers prog_3_method_7_code 2 none 0 0 0 D_Givings_clearTakers := MOK.of (by decide) (by decide) (show SO Y_Givings_clearTakers [(0, 1)] [(0, 1)] 0 22 (([], 0), ([], 0)) F_Givings_clearTakers from
  (s_seq (sl1 := [(0, 1)]) (p1 := 21) (s_blk (sl1 := [(0, 1), (1, 1)]) (s_seq (sl1 := [(0, 1), (1, 1)]) (p1 := 2) (s_decl (p1 := 1) (e_iconst d_Givings_clearTakers_0 (by decide)) (t_istore_n d_Givings_clearTakers_1 rfl (by decide)) rfl) (s_for (pt := 8) (pu := 15) (pf := 21) (pg := 0) (c_icmp_geF (p1 := 3) (p2 := 5) (tg := 21) (e_iload_n (k0 := 1) d_Givings_clearTakers_2 rfl rfl) (e_bipush d_Givings_clearTakers_3 (by decide)) d_Givings_clearTakers_5 rfl) (s_ast (p1 := 12) (p2 := 13) (p3 := 14) (e_gR (k0 := 11) (p1 := 9) cf_8 (e_aload_n (k0 := 0) d_Givings_clearTakers_8 rfl rfl) (by decide) tw_454 d_Givings_clearTakers_9) (e_iload_n (k0 := 1) d_Givings_clearTakers_12 rfl rfl) (e_iconst d_Givings_clearTakers_13 (by decide)) (as_i d_Givings_clearTakers_14)) (s_goto (p1 := 18) (s_inc (k0 := 1) d_Givings_clearTakers_15 rfl rfl (Nat.le_of_ble_eq_true rfl) rfl) d_Givings_clearTakers_18 rfl))) rfl) (s_retV rfl d_Givings_clearTakers_21)))
/-! BlinkerCross$Givings.gain(III)I -/
abbrev y_Givings_gain : MethodName := ⟨"BlinkerCross$Givings", "gain", "(III)I"⟩
abbrev Y_Givings_gain : Yt := (prog_3_method_6_code, 5, "BlinkerCross$Givings", 0, (some .int), "gain")
theorem d_Givings_gain_0 : decode prog_3_method_6_code 0 = .ok (.iload_n 1, 1) := by decide +kernel
theorem d_Givings_gain_1 : decode prog_3_method_6_code 1 = .ok (.bipush 6, 2) := by decide +kernel
theorem d_Givings_gain_3 : decode prog_3_method_6_code 3 = .ok (.imul, 1) := by decide +kernel
theorem d_Givings_gain_4 : decode prog_3_method_6_code 4 = .ok (.iload_n 2, 1) := by decide +kernel
theorem d_Givings_gain_5 : decode prog_3_method_6_code 5 = .ok (.iadd, 1) := by decide +kernel
theorem d_Givings_gain_6 : decode prog_3_method_6_code 6 = .ok (.iconst 5, 1) := by decide +kernel
theorem d_Givings_gain_7 : decode prog_3_method_6_code 7 = .ok (.imul, 1) := by decide +kernel
theorem d_Givings_gain_8 : decode prog_3_method_6_code 8 = .ok (.iload_n 3, 1) := by decide +kernel
theorem d_Givings_gain_9 : decode prog_3_method_6_code 9 = .ok (.iadd, 1) := by decide +kernel
theorem d_Givings_gain_10 : decode prog_3_method_6_code 10 = .ok (.iconst 1, 1) := by decide +kernel
theorem d_Givings_gain_11 : decode prog_3_method_6_code 11 = .ok (.isub, 1) := by decide +kernel
theorem d_Givings_gain_12 : decode prog_3_method_6_code 12 = .ok (.istore 4, 2) := by decide +kernel
theorem d_Givings_gain_14 : decode prog_3_method_6_code 14 = .ok (.iload 4, 2) := by decide +kernel
theorem d_Givings_gain_16 : decode prog_3_method_6_code 16 = .ok (.ifCond .lt 23, 3) := by decide +kernel
theorem d_Givings_gain_19 : decode prog_3_method_6_code 19 = .ok (.iload 4, 2) := by decide +kernel
theorem d_Givings_gain_21 : decode prog_3_method_6_code 21 = .ok (.aload_n 0, 1) := by decide +kernel
theorem d_Givings_gain_22 : decode prog_3_method_6_code 22 = .ok (.getfield 21, 3) := by decide +kernel
theorem d_Givings_gain_25 : decode prog_3_method_6_code 25 = .ok (.arraylength, 1) := by decide +kernel
theorem d_Givings_gain_26 : decode prog_3_method_6_code 26 = .ok (.if_icmp .ge 13, 3) := by decide +kernel
theorem d_Givings_gain_29 : decode prog_3_method_6_code 29 = .ok (.aload_n 0, 1) := by decide +kernel
theorem d_Givings_gain_30 : decode prog_3_method_6_code 30 = .ok (.getfield 21, 3) := by decide +kernel
theorem d_Givings_gain_33 : decode prog_3_method_6_code 33 = .ok (.iload 4, 2) := by decide +kernel
theorem d_Givings_gain_35 : decode prog_3_method_6_code 35 = .ok (.iaload, 1) := by decide +kernel
theorem d_Givings_gain_36 : decode prog_3_method_6_code 36 = .ok (.goto 4, 3) := by decide +kernel
theorem d_Givings_gain_39 : decode prog_3_method_6_code 39 = .ok (.iconst 0, 1) := by decide +kernel
theorem d_Givings_gain_40 : decode prog_3_method_6_code 40 = .ok (.ireturn, 1) := by decide +kernel
noncomputable def F_Givings_gain : Sm := sSeq (sDecl (asV Value.int (o2 (fun x y => x - y) (o2 (fun x y => x + y) (o2 (fun x y => x * y) (o2 (fun x y => x + y) (o2 (fun x y => x * y) (vI 1) (kI (ii 6))) (vI 2)) (kI (ii 5))) (vI 3)) (kI (ii 1))))) (sRet (asV Value.int (iX (cAnd (o1 (fun x => decide (x ≥ 0)) (vI 4)) (o2 (fun x y => decide (x < y)) (vI 4) (lnX 0 (gR 8 9 (vR 0))))) (aI 0 (gR 8 9 (vR 0)) (vI 4)) (kI (ii 0)))))
theorem mf_Givings_gain : Mf y_Givings_gain prog_3_method_6_code 5 (some .int) 3 := ⟨tw_1108, tw_130, by decide +kernel⟩
noncomputable def D_Givings_gain : Dn := runS [1, 1, 1, 1] F_Givings_gain
theorem ok_Givings_gain : MOK y_Givings_gain prog_3_method_6_code 5 (some .int) 0 0 0 D_Givings_gain := MOK.of (by decide) (by decide) (show SO Y_Givings_gain [(0, 1), (1, 1), (2, 1), (3, 1)] [(0, 1), (1, 1), (2, 1), (3, 1), (4, 1)] 0 41 (([], 0), ([], 0)) F_Givings_gain from
  (s_seq (sl1 := [(0, 1), (1, 1), (2, 1), (3, 1), (4, 1)]) (p1 := 14) (s_decl (p1 := 12) (e_isub (p1 := 10) (p2 := 11) (e_iadd (p1 := 8) (p2 := 9) (e_imul (p1 := 6) (p2 := 7) (e_iadd (p1 := 4) (p2 := 5) (e_imul (p1 := 1) (p2 := 3) (e_iload_n (k0 := 1) d_Givings_gain_0 rfl rfl) (e_bipush d_Givings_gain_1 (by decide)) d_Givings_gain_3) (e_iload_n (k0 := 2) d_Givings_gain_4 rfl rfl) d_Givings_gain_5) (e_iconst d_Givings_gain_6 (by decide)) d_Givings_gain_7) (e_iload_n (k0 := 3) d_Givings_gain_8 rfl rfl) d_Givings_gain_9) (e_iconst d_Givings_gain_10 (by decide)) d_Givings_gain_11) (t_istore d_Givings_gain_12 (by decide)) rfl) (s_ret (p1 := 40) (e_ite (pt := 29) (p1 := 36) (pf := 39) (c_and (p1 := 19) (c_if_ltF (p1 := 16) (tg := 39) (e_iload (k0 := 4) d_Givings_gain_14 rfl) d_Givings_gain_16 rfl) (c_icmp_geF (p1 := 21) (p2 := 26) (tg := 39) (e_iload (k0 := 4) d_Givings_gain_19 rfl) (e_len (t := 0) (p1 := 25) (fun _ => rfl) (e_gR (k0 := 9) (p1 := 22) cf_8 (e_aload_n (k0 := 0) d_Givings_gain_21 rfl rfl) (by decide) tw_452 d_Givings_gain_22) d_Givings_gain_25) d_Givings_gain_26 rfl)) (e_iald (p1 := 33) (p2 := 35) (e_gR (k0 := 9) (p1 := 30) cf_8 (e_aload_n (k0 := 0) d_Givings_gain_29 rfl rfl) (by decide) tw_452 d_Givings_gain_30) (e_iload (k0 := 4) d_Givings_gain_33 rfl) d_Givings_gain_35) d_Givings_gain_36 rfl (e_iconst d_Givings_gain_39 (by decide))) rfl d_Givings_gain_40)))
/-! BlinkerCross$Givings.wouldChange(I)Z -/
abbrev y_Givings_wouldChange : MethodName := ⟨"BlinkerCross$Givings", "wouldChange", "(I)Z"⟩
abbrev Y_Givings_wouldChange : Yt := (prog_3_method_11_code, 4, "BlinkerCross$Givings", 1, (some .boolean), "wouldChange")
theorem d_Givings_wouldChange_0 : decode prog_3_method_11_code 0 = .ok (.aload_n 0, 1) := by decide +kernel
theorem d_Givings_wouldChange_1 : decode prog_3_method_11_code 1 = .ok (.iload_n 1, 1) := by decide +kernel
theorem d_Givings_wouldChange_2 : decode prog_3_method_11_code 2 = .ok (.aload_n 0, 1) := by decide +kernel
theorem d_Givings_wouldChange_3 : decode prog_3_method_11_code 3 = .ok (.getfield 24, 3) := by decide +kernel
theorem d_Givings_wouldChange_6 : decode prog_3_method_11_code 6 = .ok (.iload_n 1, 1) := by decide +kernel
theorem d_Givings_wouldChange_7 : decode prog_3_method_11_code 7 = .ok (.iaload, 1) := by decide +kernel
theorem d_Givings_wouldChange_8 : decode prog_3_method_11_code 8 = .ok (.aload_n 0, 1) := by decide +kernel
theorem d_Givings_wouldChange_9 : decode prog_3_method_11_code 9 = .ok (.getfield 27, 3) := by decide +kernel
theorem d_Givings_wouldChange_12 : decode prog_3_method_11_code 12 = .ok (.aload_n 0, 1) := by decide +kernel
theorem d_Givings_wouldChange_13 : decode prog_3_method_11_code 13 = .ok (.getfield 24, 3) := by decide +kernel
theorem d_Givings_wouldChange_16 : decode prog_3_method_11_code 16 = .ok (.iload_n 1, 1) := by decide +kernel
theorem d_Givings_wouldChange_17 : decode prog_3_method_11_code 17 = .ok (.iaload, 1) := by decide +kernel
theorem d_Givings_wouldChange_18 : decode prog_3_method_11_code 18 = .ok (.iaload, 1) := by decide +kernel
theorem d_Givings_wouldChange_19 : decode prog_3_method_11_code 19 = .ok (.invokevirtual 114, 3) := by decide +kernel
theorem d_Givings_wouldChange_22 : decode prog_3_method_11_code 22 = .ok (.istore_n 2, 1) := by decide +kernel
theorem d_Givings_wouldChange_23 : decode prog_3_method_11_code 23 = .ok (.iconst 0, 1) := by decide +kernel
theorem d_Givings_wouldChange_24 : decode prog_3_method_11_code 24 = .ok (.istore_n 3, 1) := by decide +kernel
theorem d_Givings_wouldChange_25 : decode prog_3_method_11_code 25 = .ok (.iload_n 3, 1) := by decide +kernel
theorem d_Givings_wouldChange_26 : decode prog_3_method_11_code 26 = .ok (.aload_n 0, 1) := by decide +kernel
theorem d_Givings_wouldChange_27 : decode prog_3_method_11_code 27 = .ok (.getfield 37, 3) := by decide +kernel
theorem d_Givings_wouldChange_30 : decode prog_3_method_11_code 30 = .ok (.getfield 99, 3) := by decide +kernel
theorem d_Givings_wouldChange_33 : decode prog_3_method_11_code 33 = .ok (.if_icmp .ge 53, 3) := by decide +kernel
theorem d_Givings_wouldChange_36 : decode prog_3_method_11_code 36 = .ok (.aload_n 0, 1) := by decide +kernel
theorem d_Givings_wouldChange_37 : decode prog_3_method_11_code 37 = .ok (.getfield 18, 3) := by decide +kernel
theorem d_Givings_wouldChange_40 : decode prog_3_method_11_code 40 = .ok (.iload_n 1, 1) := by decide +kernel
theorem d_Givings_wouldChange_41 : decode prog_3_method_11_code 41 = .ok (.iaload, 1) := by decide +kernel
theorem d_Givings_wouldChange_42 : decode prog_3_method_11_code 42 = .ok (.iload_n 3, 1) := by decide +kernel
theorem d_Givings_wouldChange_43 : decode prog_3_method_11_code 43 = .ok (.ishr, 1) := by decide +kernel
theorem d_Givings_wouldChange_44 : decode prog_3_method_11_code 44 = .ok (.iconst 1, 1) := by decide +kernel
theorem d_Givings_wouldChange_45 : decode prog_3_method_11_code 45 = .ok (.iand, 1) := by decide +kernel
theorem d_Givings_wouldChange_46 : decode prog_3_method_11_code 46 = .ok (.iconst 1, 1) := by decide +kernel
theorem d_Givings_wouldChange_47 : decode prog_3_method_11_code 47 = .ok (.if_icmp .ne 33, 3) := by decide +kernel
theorem d_Givings_wouldChange_50 : decode prog_3_method_11_code 50 = .ok (.iload_n 3, 1) := by decide +kernel
theorem d_Givings_wouldChange_51 : decode prog_3_method_11_code 51 = .ok (.aload_n 0, 1) := by decide +kernel
theorem d_Givings_wouldChange_52 : decode prog_3_method_11_code 52 = .ok (.getfield 24, 3) := by decide +kernel
theorem d_Givings_wouldChange_55 : decode prog_3_method_11_code 55 = .ok (.iload_n 1, 1) := by decide +kernel
theorem d_Givings_wouldChange_56 : decode prog_3_method_11_code 56 = .ok (.iaload, 1) := by decide +kernel
theorem d_Givings_wouldChange_57 : decode prog_3_method_11_code 57 = .ok (.if_icmp .eq 23, 3) := by decide +kernel
theorem d_Givings_wouldChange_60 : decode prog_3_method_11_code 60 = .ok (.aload_n 0, 1) := by decide +kernel
theorem d_Givings_wouldChange_61 : decode prog_3_method_11_code 61 = .ok (.iload_n 1, 1) := by decide +kernel
theorem d_Givings_wouldChange_62 : decode prog_3_method_11_code 62 = .ok (.iload_n 3, 1) := by decide +kernel
theorem d_Givings_wouldChange_63 : decode prog_3_method_11_code 63 = .ok (.aload_n 0, 1) := by decide +kernel
theorem d_Givings_wouldChange_64 : decode prog_3_method_11_code 64 = .ok (.getfield 27, 3) := by decide +kernel
theorem d_Givings_wouldChange_67 : decode prog_3_method_11_code 67 = .ok (.iload_n 3, 1) := by decide +kernel
theorem d_Givings_wouldChange_68 : decode prog_3_method_11_code 68 = .ok (.iaload, 1) := by decide +kernel
theorem d_Givings_wouldChange_69 : decode prog_3_method_11_code 69 = .ok (.iconst 1, 1) := by decide +kernel
theorem d_Givings_wouldChange_70 : decode prog_3_method_11_code 70 = .ok (.iadd, 1) := by decide +kernel
theorem d_Givings_wouldChange_71 : decode prog_3_method_11_code 71 = .ok (.invokevirtual 114, 3) := by decide +kernel
theorem d_Givings_wouldChange_74 : decode prog_3_method_11_code 74 = .ok (.iload_n 2, 1) := by decide +kernel
theorem d_Givings_wouldChange_75 : decode prog_3_method_11_code 75 = .ok (.if_icmp .le 5, 3) := by decide +kernel
theorem d_Givings_wouldChange_78 : decode prog_3_method_11_code 78 = .ok (.iconst 1, 1) := by decide +kernel
theorem d_Givings_wouldChange_79 : decode prog_3_method_11_code 79 = .ok (.ireturn, 1) := by decide +kernel
theorem d_Givings_wouldChange_80 : decode prog_3_method_11_code 80 = .ok (.iinc 3 1, 3) := by decide +kernel
theorem d_Givings_wouldChange_83 : decode prog_3_method_11_code 83 = .ok (.goto (-58), 3) := by decide +kernel
theorem d_Givings_wouldChange_86 : decode prog_3_method_11_code 86 = .ok (.iconst 0, 1) := by decide +kernel
theorem d_Givings_wouldChange_87 : decode prog_3_method_11_code 87 = .ok (.ireturn, 1) := by decide +kernel
noncomputable def Lc_Givings_wouldChange_1 : Xp Bool := o2 (fun x y => decide (x < y)) (vI 3) (gI 2 0 (gR 8 5 (vR 0)))
noncomputable def Lb_Givings_wouldChange_1 : Sm := sIf (cAnd (cAnd (o2 (fun x y => decide (x = y)) (o2 (fun x y => x &&& y) (o2 (fun (x y : Int32) => x >>> (y &&& 31)) (aI 0 (gR 8 8 (vR 0)) (vI 1)) (vI 3)) (kI (ii 1))) (kI (ii 1))) (o2 (fun x y => decide (x ≠ y)) (vI 3) (aI 0 (gR 8 10 (vR 0)) (vI 1)))) (o2 (fun x y => decide (x > y)) (cI (mV 8 D_Givings_gain) [asV Value.ref (vR 0), asV Value.int (vI 1), asV Value.int (vI 3), asV Value.int (o2 (fun x y => x + y) (aI 0 (gR 8 11 (vR 0)) (vI 3)) (kI (ii 1)))]) (vI 2))) (sRetZ (kI (ii 1))) (sSkip)
noncomputable def Lu_Givings_wouldChange_1 : Sm := sInc 3 (ii 1)
noncomputable def F_Givings_wouldChange : Sm := sSeq (sDecl (asV Value.int (cI (mV 8 D_Givings_gain) [asV Value.ref (vR 0), asV Value.int (vI 1), asV Value.int (aI 0 (gR 8 10 (vR 0)) (vI 1)), asV Value.int (aI 0 (gR 8 11 (vR 0)) (aI 0 (gR 8 10 (vR 0)) (vI 1)))]))) (sSeq (sBlk 3 (sSeq (sDecl (asV Value.int (kI (ii 0)))) (sWh (Lc_Givings_wouldChange_1) (Lb_Givings_wouldChange_1) Lu_Givings_wouldChange_1))) (sRetZ (kI (ii 0))))
theorem mf_Givings_wouldChange : Mf y_Givings_wouldChange prog_3_method_11_code 4 (some .boolean) 1 := ⟨tw_1117, tw_130, by decide +kernel⟩
noncomputable def D_Givings_wouldChange : Dn := runS [1, 1] F_Givings_wouldChange
theorem ok_Givings_wouldChange : MOK y_Givings_wouldChange prog_3_method_11_code 4 (some .boolean) 1 0 0 D_Givings_wouldChange := MOK.of (by decide) (by decide) (show SO Y_Givings_wouldChange [(0, 1), (1, 1)] [(0, 1), (1, 1), (2, 1)] 0 88 (([], 0), ([], 0)) F_Givings_wouldChange from
  (s_seq (sl1 := [(0, 1), (1, 1), (2, 1)]) (p1 := 23) (s_decl (p1 := 22) (e_cI (p1 := 19) (a_cons (ι := Value.ref) (k0 := 1) (p1 := 1) (fun _ => rfl) (e_aload_n (k0 := 0) d_Givings_wouldChange_0 rfl rfl) (a_cons (ι := Value.int) (k0 := 1) (p1 := 2) (fun _ => rfl) (e_iload_n (k0 := 1) d_Givings_wouldChange_1 rfl rfl) (a_cons (ι := Value.int) (k0 := 1) (p1 := 8) (fun _ => rfl) (e_iald (p1 := 6) (p2 := 7) (e_gR (k0 := 10) (p1 := 3) cf_8 (e_aload_n (k0 := 0) d_Givings_wouldChange_2 rfl rfl) (by decide) tw_453 d_Givings_wouldChange_3) (e_iload_n (k0 := 1) d_Givings_wouldChange_6 rfl rfl) d_Givings_wouldChange_7) (a_cons (ι := Value.int) (k0 := 1) (p1 := 19) (fun _ => rfl) (e_iald (p1 := 12) (p2 := 18) (e_gR (k0 := 11) (p1 := 9) cf_8 (e_aload_n (k0 := 0) d_Givings_wouldChange_8 rfl rfl) (by decide) tw_454 d_Givings_wouldChange_9) (e_iald (p1 := 16) (p2 := 17) (e_gR (k0 := 10) (p1 := 13) cf_8 (e_aload_n (k0 := 0) d_Givings_wouldChange_12 rfl rfl) (by decide) tw_453 d_Givings_wouldChange_13) (e_iload_n (k0 := 1) d_Givings_wouldChange_16 rfl rfl) d_Givings_wouldChange_17) d_Givings_wouldChange_18) a_nil)))) (k_virt ok_Givings_gain mf_Givings_gain ⟨tw_1107, tw_35⟩ rfl tw_1105 d_Givings_wouldChange_19 (by decide) (by decide) (by decide))) (t_istore_n d_Givings_wouldChange_22 rfl (by decide)) rfl) (s_seq (sl1 := [(0, 1), (1, 1), (2, 1)]) (p1 := 86) (s_blk (sl1 := [(0, 1), (1, 1), (2, 1), (3, 1)]) (s_seq (sl1 := [(0, 1), (1, 1), (2, 1), (3, 1)]) (p1 := 25) (s_decl (p1 := 24) (e_iconst d_Givings_wouldChange_23 (by decide)) (t_istore_n d_Givings_wouldChange_24 rfl (by decide)) rfl) (s_for (pt := 36) (pu := 80) (pf := 86) (pg := 0) (c_icmp_geF (p1 := 26) (p2 := 33) (tg := 86) (e_iload_n (k0 := 3) d_Givings_wouldChange_25 rfl rfl) (e_gI (k0 := 0) (p1 := 30) cf_2 (e_gR (k0 := 5) (p1 := 27) cf_8 (e_aload_n (k0 := 0) d_Givings_wouldChange_26 rfl rfl) (by decide) tw_448 d_Givings_wouldChange_27) (by decide) tw_199 d_Givings_wouldChange_30) d_Givings_wouldChange_33 rfl) (s_if (pt := 78) (pf := 80) (c_and (p1 := 60) (c_and (p1 := 50) (c_icmp_neF (p1 := 46) (p2 := 47) (tg := 80) (e_iand (p1 := 44) (p2 := 45) (e_ishr (p1 := 42) (p2 := 43) (e_iald (p1 := 40) (p2 := 41) (e_gR (k0 := 8) (p1 := 37) cf_8 (e_aload_n (k0 := 0) d_Givings_wouldChange_36 rfl rfl) (by decide) tw_451 d_Givings_wouldChange_37) (e_iload_n (k0 := 1) d_Givings_wouldChange_40 rfl rfl) d_Givings_wouldChange_41) (e_iload_n (k0 := 3) d_Givings_wouldChange_42 rfl rfl) d_Givings_wouldChange_43) (e_iconst d_Givings_wouldChange_44 (by decide)) d_Givings_wouldChange_45) (e_iconst d_Givings_wouldChange_46 (by decide)) d_Givings_wouldChange_47 rfl) (c_icmp_eqF (p1 := 51) (p2 := 57) (tg := 80) (e_iload_n (k0 := 3) d_Givings_wouldChange_50 rfl rfl) (e_iald (p1 := 55) (p2 := 56) (e_gR (k0 := 10) (p1 := 52) cf_8 (e_aload_n (k0 := 0) d_Givings_wouldChange_51 rfl rfl) (by decide) tw_453 d_Givings_wouldChange_52) (e_iload_n (k0 := 1) d_Givings_wouldChange_55 rfl rfl) d_Givings_wouldChange_56) d_Givings_wouldChange_57 rfl)) (c_icmp_leF (p1 := 74) (p2 := 75) (tg := 80) (e_cI (p1 := 71) (a_cons (ι := Value.ref) (k0 := 1) (p1 := 61) (fun _ => rfl) (e_aload_n (k0 := 0) d_Givings_wouldChange_60 rfl rfl) (a_cons (ι := Value.int) (k0 := 1) (p1 := 62) (fun _ => rfl) (e_iload_n (k0 := 1) d_Givings_wouldChange_61 rfl rfl) (a_cons (ι := Value.int) (k0 := 1) (p1 := 63) (fun _ => rfl) (e_iload_n (k0 := 3) d_Givings_wouldChange_62 rfl rfl) (a_cons (ι := Value.int) (k0 := 1) (p1 := 71) (fun _ => rfl) (e_iadd (p1 := 69) (p2 := 70) (e_iald (p1 := 67) (p2 := 68) (e_gR (k0 := 11) (p1 := 64) cf_8 (e_aload_n (k0 := 0) d_Givings_wouldChange_63 rfl rfl) (by decide) tw_454 d_Givings_wouldChange_64) (e_iload_n (k0 := 3) d_Givings_wouldChange_67 rfl rfl) d_Givings_wouldChange_68) (e_iconst d_Givings_wouldChange_69 (by decide)) d_Givings_wouldChange_70) a_nil)))) (k_virt ok_Givings_gain mf_Givings_gain ⟨tw_1107, tw_35⟩ rfl tw_1105 d_Givings_wouldChange_71 (by decide) (by decide) (by decide))) (e_iload_n (k0 := 2) d_Givings_wouldChange_74 rfl rfl) d_Givings_wouldChange_75 rfl)) (s_retZ (p1 := 79) (e_iconst d_Givings_wouldChange_78 (by decide)) rfl d_Givings_wouldChange_79) s_skip) (s_goto (p1 := 83) (s_inc (k0 := 3) d_Givings_wouldChange_80 rfl rfl (Nat.le_of_ble_eq_true rfl) rfl) d_Givings_wouldChange_83 rfl))) rfl) (s_retZ (p1 := 87) (e_iconst d_Givings_wouldChange_86 (by decide)) rfl d_Givings_wouldChange_87))))
/-! BlinkerCross$Givings.isRest()Z -/
abbrev y_Givings_isRest : MethodName := ⟨"BlinkerCross$Givings", "isRest", "()Z"⟩
abbrev Y_Givings_isRest : Yt := (prog_3_method_10_code, 2, "BlinkerCross$Givings", 2, (some .boolean), "isRest")
theorem d_Givings_isRest_0 : decode prog_3_method_10_code 0 = .ok (.iconst 0, 1) := by decide +kernel
theorem d_Givings_isRest_1 : decode prog_3_method_10_code 1 = .ok (.istore_n 1, 1) := by decide +kernel
theorem d_Givings_isRest_2 : decode prog_3_method_10_code 2 = .ok (.iload_n 1, 1) := by decide +kernel
theorem d_Givings_isRest_3 : decode prog_3_method_10_code 3 = .ok (.aload_n 0, 1) := by decide +kernel
theorem d_Givings_isRest_4 : decode prog_3_method_10_code 4 = .ok (.getfield 37, 3) := by decide +kernel
theorem d_Givings_isRest_7 : decode prog_3_method_10_code 7 = .ok (.getfield 77, 3) := by decide +kernel
theorem d_Givings_isRest_10 : decode prog_3_method_10_code 10 = .ok (.if_icmp .ge 19, 3) := by decide +kernel
theorem d_Givings_isRest_13 : decode prog_3_method_10_code 13 = .ok (.aload_n 0, 1) := by decide +kernel
theorem d_Givings_isRest_14 : decode prog_3_method_10_code 14 = .ok (.iload_n 1, 1) := by decide +kernel
theorem d_Givings_isRest_15 : decode prog_3_method_10_code 15 = .ok (.invokevirtual 128, 3) := by decide +kernel
theorem d_Givings_isRest_18 : decode prog_3_method_10_code 18 = .ok (.ifCond .eq 5, 3) := by decide +kernel
theorem d_Givings_isRest_21 : decode prog_3_method_10_code 21 = .ok (.iconst 0, 1) := by decide +kernel
theorem d_Givings_isRest_22 : decode prog_3_method_10_code 22 = .ok (.ireturn, 1) := by decide +kernel
theorem d_Givings_isRest_23 : decode prog_3_method_10_code 23 = .ok (.iinc 1 1, 3) := by decide +kernel
theorem d_Givings_isRest_26 : decode prog_3_method_10_code 26 = .ok (.goto (-24), 3) := by decide +kernel
theorem d_Givings_isRest_29 : decode prog_3_method_10_code 29 = .ok (.iconst 1, 1) := by decide +kernel
theorem d_Givings_isRest_30 : decode prog_3_method_10_code 30 = .ok (.ireturn, 1) := by decide +kernel
noncomputable def Lc_Givings_isRest_1 : Xp Bool := o2 (fun x y => decide (x < y)) (vI 1) (gI 2 1 (gR 8 5 (vR 0)))
noncomputable def Lb_Givings_isRest_1 : Sm := sIf (o1 (fun x => decide (x ≠ 0)) (cI (mV 8 D_Givings_wouldChange) [asV Value.ref (vR 0), asV Value.int (vI 1)])) (sRetZ (kI (ii 0))) (sSkip)
noncomputable def Lu_Givings_isRest_1 : Sm := sInc 1 (ii 1)
noncomputable def F_Givings_isRest : Sm := sSeq (sBlk 1 (sSeq (sDecl (asV Value.int (kI (ii 0)))) (sWh (Lc_Givings_isRest_1) (Lb_Givings_isRest_1) Lu_Givings_isRest_1))) (sRetZ (kI (ii 1)))
theorem mf_Givings_isRest : Mf y_Givings_isRest prog_3_method_10_code 2 (some .boolean) 0 := ⟨tw_1113, tw_130, by decide +kernel⟩
noncomputable def D_Givings_isRest : Dn := runS [1] F_Givings_isRest
theorem ok_Givings_isRest : MOK y_Givings_isRest prog_3_method_10_code 2 (some .boolean) 2 0 0 D_Givings_isRest := MOK.of (by decide) (by decide) (show SO Y_Givings_isRest [(0, 1)] [(0, 1)] 0 31 (([], 0), ([], 0)) F_Givings_isRest from
  (s_seq (sl1 := [(0, 1)]) (p1 := 29) (s_blk (sl1 := [(0, 1), (1, 1)]) (s_seq (sl1 := [(0, 1), (1, 1)]) (p1 := 2) (s_decl (p1 := 1) (e_iconst d_Givings_isRest_0 (by decide)) (t_istore_n d_Givings_isRest_1 rfl (by decide)) rfl) (s_for (pt := 13) (pu := 23) (pf := 29) (pg := 0) (c_icmp_geF (p1 := 3) (p2 := 10) (tg := 29) (e_iload_n (k0 := 1) d_Givings_isRest_2 rfl rfl) (e_gI (k0 := 1) (p1 := 7) cf_2 (e_gR (k0 := 5) (p1 := 4) cf_8 (e_aload_n (k0 := 0) d_Givings_isRest_3 rfl rfl) (by decide) tw_448 d_Givings_isRest_4) (by decide) tw_207 d_Givings_isRest_7) d_Givings_isRest_10 rfl) (s_if (pt := 21) (pf := 23) (c_if_eqF (p1 := 18) (tg := 23) (e_cI (p1 := 15) (a_cons (ι := Value.ref) (k0 := 1) (p1 := 14) (fun _ => rfl) (e_aload_n (k0 := 0) d_Givings_isRest_13 rfl rfl) (a_cons (ι := Value.int) (k0 := 1) (p1 := 15) (fun _ => rfl) (e_iload_n (k0 := 1) d_Givings_isRest_14 rfl rfl) a_nil)) (k_virt ok_Givings_wouldChange mf_Givings_wouldChange ⟨tw_1116, tw_37⟩ rfl tw_1114 d_Givings_isRest_15 (by decide) (by decide) (by decide))) d_Givings_isRest_18 rfl) (s_retZ (p1 := 22) (e_iconst d_Givings_isRest_21 (by decide)) rfl d_Givings_isRest_22) s_skip) (s_goto (p1 := 26) (s_inc (k0 := 1) d_Givings_isRest_23 rfl rfl (Nat.le_of_ble_eq_true rfl) rfl) d_Givings_isRest_26 rfl))) rfl) (s_retZ (p1 := 30) (e_iconst d_Givings_isRest_29 (by decide)) rfl d_Givings_isRest_30)))
/-! BlinkerCross$Givings.weigh()V -/
abbrev y_Givings_weigh : MethodName := ⟨"BlinkerCross$Givings", "weigh", "()V"⟩
abbrev Y_Givings_weigh : Yt := (prog_3_method_9_code, 3, "BlinkerCross$Givings", 3, none, "weigh")
theorem d_Givings_weigh_0 : decode prog_3_method_9_code 0 = .ok (.iconst 0, 1) := by decide +kernel
theorem d_Givings_weigh_1 : decode prog_3_method_9_code 1 = .ok (.istore_n 1, 1) := by decide +kernel
theorem d_Givings_weigh_2 : decode prog_3_method_9_code 2 = .ok (.iconst 0, 1) := by decide +kernel
theorem d_Givings_weigh_3 : decode prog_3_method_9_code 3 = .ok (.istore_n 2, 1) := by decide +kernel
theorem d_Givings_weigh_4 : decode prog_3_method_9_code 4 = .ok (.iload_n 2, 1) := by decide +kernel
theorem d_Givings_weigh_5 : decode prog_3_method_9_code 5 = .ok (.aload_n 0, 1) := by decide +kernel
theorem d_Givings_weigh_6 : decode prog_3_method_9_code 6 = .ok (.getfield 37, 3) := by decide +kernel
theorem d_Givings_weigh_9 : decode prog_3_method_9_code 9 = .ok (.getfield 77, 3) := by decide +kernel
theorem d_Givings_weigh_12 : decode prog_3_method_9_code 12 = .ok (.if_icmp .ge 34, 3) := by decide +kernel
theorem d_Givings_weigh_15 : decode prog_3_method_9_code 15 = .ok (.iload_n 1, 1) := by decide +kernel
theorem d_Givings_weigh_16 : decode prog_3_method_9_code 16 = .ok (.aload_n 0, 1) := by decide +kernel
theorem d_Givings_weigh_17 : decode prog_3_method_9_code 17 = .ok (.iload_n 2, 1) := by decide +kernel
theorem d_Givings_weigh_18 : decode prog_3_method_9_code 18 = .ok (.aload_n 0, 1) := by decide +kernel
theorem d_Givings_weigh_19 : decode prog_3_method_9_code 19 = .ok (.getfield 24, 3) := by decide +kernel
theorem d_Givings_weigh_22 : decode prog_3_method_9_code 22 = .ok (.iload_n 2, 1) := by decide +kernel
theorem d_Givings_weigh_23 : decode prog_3_method_9_code 23 = .ok (.iaload, 1) := by decide +kernel
theorem d_Givings_weigh_24 : decode prog_3_method_9_code 24 = .ok (.aload_n 0, 1) := by decide +kernel
theorem d_Givings_weigh_25 : decode prog_3_method_9_code 25 = .ok (.getfield 27, 3) := by decide +kernel
theorem d_Givings_weigh_28 : decode prog_3_method_9_code 28 = .ok (.aload_n 0, 1) := by decide +kernel
theorem d_Givings_weigh_29 : decode prog_3_method_9_code 29 = .ok (.getfield 24, 3) := by decide +kernel
theorem d_Givings_weigh_32 : decode prog_3_method_9_code 32 = .ok (.iload_n 2, 1) := by decide +kernel
theorem d_Givings_weigh_33 : decode prog_3_method_9_code 33 = .ok (.iaload, 1) := by decide +kernel
theorem d_Givings_weigh_34 : decode prog_3_method_9_code 34 = .ok (.iaload, 1) := by decide +kernel
theorem d_Givings_weigh_35 : decode prog_3_method_9_code 35 = .ok (.invokevirtual 114, 3) := by decide +kernel
theorem d_Givings_weigh_38 : decode prog_3_method_9_code 38 = .ok (.iadd, 1) := by decide +kernel
theorem d_Givings_weigh_39 : decode prog_3_method_9_code 39 = .ok (.istore_n 1, 1) := by decide +kernel
theorem d_Givings_weigh_40 : decode prog_3_method_9_code 40 = .ok (.iinc 2 1, 3) := by decide +kernel
theorem d_Givings_weigh_43 : decode prog_3_method_9_code 43 = .ok (.goto (-39), 3) := by decide +kernel
theorem d_Givings_weigh_46 : decode prog_3_method_9_code 46 = .ok (.aload_n 0, 1) := by decide +kernel
theorem d_Givings_weigh_47 : decode prog_3_method_9_code 47 = .ok (.getfield 66, 3) := by decide +kernel
theorem d_Givings_weigh_50 : decode prog_3_method_9_code 50 = .ok (.ifCond .eq 11, 3) := by decide +kernel
theorem d_Givings_weigh_53 : decode prog_3_method_9_code 53 = .ok (.iload_n 1, 1) := by decide +kernel
theorem d_Givings_weigh_54 : decode prog_3_method_9_code 54 = .ok (.aload_n 0, 1) := by decide +kernel
theorem d_Givings_weigh_55 : decode prog_3_method_9_code 55 = .ok (.getfield 63, 3) := by decide +kernel
theorem d_Givings_weigh_58 : decode prog_3_method_9_code 58 = .ok (.if_icmp .le 27, 3) := by decide +kernel
theorem d_Givings_weigh_61 : decode prog_3_method_9_code 61 = .ok (.aload_n 0, 1) := by decide +kernel
theorem d_Givings_weigh_62 : decode prog_3_method_9_code 62 = .ok (.iconst 1, 1) := by decide +kernel
theorem d_Givings_weigh_63 : decode prog_3_method_9_code 63 = .ok (.putfield 66, 3) := by decide +kernel
theorem d_Givings_weigh_66 : decode prog_3_method_9_code 66 = .ok (.aload_n 0, 1) := by decide +kernel
theorem d_Givings_weigh_67 : decode prog_3_method_9_code 67 = .ok (.iload_n 1, 1) := by decide +kernel
theorem d_Givings_weigh_68 : decode prog_3_method_9_code 68 = .ok (.putfield 63, 3) := by decide +kernel
theorem d_Givings_weigh_71 : decode prog_3_method_9_code 71 = .ok (.aload_n 0, 1) := by decide +kernel
theorem d_Givings_weigh_72 : decode prog_3_method_9_code 72 = .ok (.getfield 24, 3) := by decide +kernel
theorem d_Givings_weigh_75 : decode prog_3_method_9_code 75 = .ok (.iconst 0, 1) := by decide +kernel
theorem d_Givings_weigh_76 : decode prog_3_method_9_code 76 = .ok (.aload_n 0, 1) := by decide +kernel
theorem d_Givings_weigh_77 : decode prog_3_method_9_code 77 = .ok (.getfield 15, 3) := by decide +kernel
theorem d_Givings_weigh_80 : decode prog_3_method_9_code 80 = .ok (.iconst 0, 1) := by decide +kernel
theorem d_Givings_weigh_81 : decode prog_3_method_9_code 81 = .ok (.iconst 5, 1) := by decide +kernel
theorem d_Givings_weigh_82 : decode prog_3_method_9_code 82 = .ok (.invokestatic 118, 3) := by decide +kernel
theorem d_Givings_weigh_85 : decode prog_3_method_9_code 85 = .ok (.aload_n 0, 1) := by decide +kernel
theorem d_Givings_weigh_86 : decode prog_3_method_9_code 86 = .ok (.invokevirtual 124, 3) := by decide +kernel
theorem d_Givings_weigh_89 : decode prog_3_method_9_code 89 = .ok (.ifCond .ne 4, 3) := by decide +kernel
theorem d_Givings_weigh_92 : decode prog_3_method_9_code 92 = .ok (.return_, 1) := by decide +kernel
theorem d_Givings_weigh_93 : decode prog_3_method_9_code 93 = .ok (.aload_n 0, 1) := by decide +kernel
theorem d_Givings_weigh_94 : decode prog_3_method_9_code 94 = .ok (.getfield 57, 3) := by decide +kernel
theorem d_Givings_weigh_97 : decode prog_3_method_9_code 97 = .ok (.ifCond .eq 11, 3) := by decide +kernel
theorem d_Givings_weigh_100 : decode prog_3_method_9_code 100 = .ok (.iload_n 1, 1) := by decide +kernel
theorem d_Givings_weigh_101 : decode prog_3_method_9_code 101 = .ok (.aload_n 0, 1) := by decide +kernel
theorem d_Givings_weigh_102 : decode prog_3_method_9_code 102 = .ok (.getfield 60, 3) := by decide +kernel
theorem d_Givings_weigh_105 : decode prog_3_method_9_code 105 = .ok (.if_icmp .le 22, 3) := by decide +kernel
theorem d_Givings_weigh_108 : decode prog_3_method_9_code 108 = .ok (.aload_n 0, 1) := by decide +kernel
theorem d_Givings_weigh_109 : decode prog_3_method_9_code 109 = .ok (.iload_n 1, 1) := by decide +kernel
theorem d_Givings_weigh_110 : decode prog_3_method_9_code 110 = .ok (.putfield 60, 3) := by decide +kernel
theorem d_Givings_weigh_113 : decode prog_3_method_9_code 113 = .ok (.aload_n 0, 1) := by decide +kernel
theorem d_Givings_weigh_114 : decode prog_3_method_9_code 114 = .ok (.getfield 24, 3) := by decide +kernel
theorem d_Givings_weigh_117 : decode prog_3_method_9_code 117 = .ok (.iconst 0, 1) := by decide +kernel
theorem d_Givings_weigh_118 : decode prog_3_method_9_code 118 = .ok (.aload_n 0, 1) := by decide +kernel
theorem d_Givings_weigh_119 : decode prog_3_method_9_code 119 = .ok (.getfield 9, 3) := by decide +kernel
theorem d_Givings_weigh_122 : decode prog_3_method_9_code 122 = .ok (.iconst 0, 1) := by decide +kernel
theorem d_Givings_weigh_123 : decode prog_3_method_9_code 123 = .ok (.iconst 5, 1) := by decide +kernel
theorem d_Givings_weigh_124 : decode prog_3_method_9_code 124 = .ok (.invokestatic 118, 3) := by decide +kernel
theorem d_Givings_weigh_127 : decode prog_3_method_9_code 127 = .ok (.aload_n 0, 1) := by decide +kernel
theorem d_Givings_weigh_128 : decode prog_3_method_9_code 128 = .ok (.dup, 1) := by decide +kernel
theorem d_Givings_weigh_129 : decode prog_3_method_9_code 129 = .ok (.getfield 57, 3) := by decide +kernel
theorem d_Givings_weigh_132 : decode prog_3_method_9_code 132 = .ok (.iconst 1, 1) := by decide +kernel
theorem d_Givings_weigh_133 : decode prog_3_method_9_code 133 = .ok (.iadd, 1) := by decide +kernel
theorem d_Givings_weigh_134 : decode prog_3_method_9_code 134 = .ok (.putfield 57, 3) := by decide +kernel
theorem d_Givings_weigh_137 : decode prog_3_method_9_code 137 = .ok (.return_, 1) := by decide +kernel
noncomputable def Lc_Givings_weigh_1 : Xp Bool := o2 (fun x y => decide (x < y)) (vI 2) (gI 2 1 (gR 8 5 (vR 0)))
noncomputable def Lb_Givings_weigh_1 : Sm := sSet 1 (asV Value.int (o2 (fun x y => x + y) (vI 1) (cI (mV 8 D_Givings_gain) [asV Value.ref (vR 0), asV Value.int (vI 2), asV Value.int (aI 0 (gR 8 10 (vR 0)) (vI 2)), asV Value.int (aI 0 (gR 8 11 (vR 0)) (aI 0 (gR 8 10 (vR 0)) (vI 2)))])))
noncomputable def Lu_Givings_weigh_1 : Sm := sInc 2 (ii 1)
noncomputable def F_Givings_weigh : Sm := sSeq (sDecl (asV Value.int (kI (ii 0)))) (sSeq (sBlk 2 (sSeq (sDecl (asV Value.int (kI (ii 0)))) (sWh (Lc_Givings_weigh_1) (Lb_Givings_weigh_1) Lu_Givings_weigh_1))) (sSeq (sIf (cOr (cNot (o1 (fun x => decide (x ≠ 0)) (gI 8 12 (vR 0)))) (o2 (fun x y => decide (x > y)) (vI 1) (gI 8 2 (vR 0)))) (sSeq (sPutZ 8 12 (vR 0) (kI (ii 1))) (sSeq (sPut 8 2 (vR 0) (asV Value.int (vI 1))) (sCpy (gR 8 10 (vR 0)) (kI (ii 0)) (gR 8 4 (vR 0)) (kI (ii 0)) (kI (ii 5))))) (sSkip)) (sSeq (sIf (cNot (o1 (fun x => decide (x ≠ 0)) (cI (mV 8 D_Givings_isRest) [asV Value.ref (vR 0)]))) (sRetV) (sSkip)) (sSeq (sIf (cOr (o1 (fun x => decide (x = 0)) (gI 8 0 (vR 0))) (o2 (fun x y => decide (x > y)) (vI 1) (gI 8 1 (vR 0)))) (sSeq (sPut 8 1 (vR 0) (asV Value.int (vI 1))) (sCpy (gR 8 10 (vR 0)) (kI (ii 0)) (gR 8 3 (vR 0)) (kI (ii 0)) (kI (ii 5)))) (sSkip)) (sSeq (sFop 8 0 (vR 0) (fun x y => x + y) (kI (ii 1))) (sRetV))))))
theorem mf_Givings_weigh : Mf y_Givings_weigh prog_3_method_9_code 3 none 0 := ⟨tw_1104, tw_130, by decide +kernel⟩
noncomputable def D_Givings_weigh : Dn := runS [1] F_Givings_weigh
theorem ok_Givings_weigh : MOK y_Givings_weigh prog_3_method_9_code 3 none 3 0 0 D_Givings_weigh := MOK.of (by decide) (by decide) (show SO Y_Givings_weigh [(0, 1)] [(0, 1), (1, 1)] 0 138 (([], 0), ([], 0)) F_Givings_weigh from
  (s_seq (sl1 := [(0, 1), (1, 1)]) (p1 := 2) (s_decl (p1 := 1) (e_iconst d_Givings_weigh_0 (by decide)) (t_istore_n d_Givings_weigh_1 rfl (by decide)) rfl) (s_seq (sl1 := [(0, 1), (1, 1)]) (p1 := 46) (s_blk (sl1 := [(0, 1), (1, 1), (2, 1)]) (s_seq (sl1 := [(0, 1), (1, 1), (2, 1)]) (p1 := 4) (s_decl (p1 := 3) (e_iconst d_Givings_weigh_2 (by decide)) (t_istore_n d_Givings_weigh_3 rfl (by decide)) rfl) (s_for (pt := 15) (pu := 40) (pf := 46) (pg := 0) (c_icmp_geF (p1 := 5) (p2 := 12) (tg := 46) (e_iload_n (k0 := 2) d_Givings_weigh_4 rfl rfl) (e_gI (k0 := 1) (p1 := 9) cf_2 (e_gR (k0 := 5) (p1 := 6) cf_8 (e_aload_n (k0 := 0) d_Givings_weigh_5 rfl rfl) (by decide) tw_448 d_Givings_weigh_6) (by decide) tw_207 d_Givings_weigh_9) d_Givings_weigh_12 rfl) (s_set (k0 := 1) (p1 := 39) (e_iadd (p1 := 16) (p2 := 38) (e_iload_n (k0 := 1) d_Givings_weigh_15 rfl rfl) (e_cI (p1 := 35) (a_cons (ι := Value.ref) (k0 := 1) (p1 := 17) (fun _ => rfl) (e_aload_n (k0 := 0) d_Givings_weigh_16 rfl rfl) (a_cons (ι := Value.int) (k0 := 1) (p1 := 18) (fun _ => rfl) (e_iload_n (k0 := 2) d_Givings_weigh_17 rfl rfl) (a_cons (ι := Value.int) (k0 := 1) (p1 := 24) (fun _ => rfl) (e_iald (p1 := 22) (p2 := 23) (e_gR (k0 := 10) (p1 := 19) cf_8 (e_aload_n (k0 := 0) d_Givings_weigh_18 rfl rfl) (by decide) tw_453 d_Givings_weigh_19) (e_iload_n (k0 := 2) d_Givings_weigh_22 rfl rfl) d_Givings_weigh_23) (a_cons (ι := Value.int) (k0 := 1) (p1 := 35) (fun _ => rfl) (e_iald (p1 := 28) (p2 := 34) (e_gR (k0 := 11) (p1 := 25) cf_8 (e_aload_n (k0 := 0) d_Givings_weigh_24 rfl rfl) (by decide) tw_454 d_Givings_weigh_25) (e_iald (p1 := 32) (p2 := 33) (e_gR (k0 := 10) (p1 := 29) cf_8 (e_aload_n (k0 := 0) d_Givings_weigh_28 rfl rfl) (by decide) tw_453 d_Givings_weigh_29) (e_iload_n (k0 := 2) d_Givings_weigh_32 rfl rfl) d_Givings_weigh_33) d_Givings_weigh_34) a_nil)))) (k_virt ok_Givings_gain mf_Givings_gain ⟨tw_1107, tw_35⟩ rfl tw_1105 d_Givings_weigh_35 (by decide) (by decide) (by decide))) d_Givings_weigh_38) (t_istore_n d_Givings_weigh_39 rfl (by decide)) rfl rfl) (s_goto (p1 := 43) (s_inc (k0 := 2) d_Givings_weigh_40 rfl rfl (Nat.le_of_ble_eq_true rfl) rfl) d_Givings_weigh_43 rfl))) rfl) (s_seq (sl1 := [(0, 1), (1, 1)]) (p1 := 85) (s_if (pt := 61) (pf := 85) (c_or (p1 := 53) (c_not (c_if_eqF (p1 := 50) (tg := 61) (e_gI (k0 := 12) (p1 := 47) cf_8 (e_aload_n (k0 := 0) d_Givings_weigh_46 rfl rfl) (by decide) tw_455 d_Givings_weigh_47) d_Givings_weigh_50 rfl)) (c_icmp_leF (p1 := 54) (p2 := 58) (tg := 85) (e_iload_n (k0 := 1) d_Givings_weigh_53 rfl rfl) (e_gI (k0 := 2) (p1 := 55) cf_8 (e_aload_n (k0 := 0) d_Givings_weigh_54 rfl rfl) (by decide) tw_442 d_Givings_weigh_55) d_Givings_weigh_58 rfl)) (s_seq (sl1 := [(0, 1), (1, 1)]) (p1 := 66) (s_putZ (k0 := 12) (p1 := 62) (p2 := 63) cf_8 (e_aload_n (k0 := 0) d_Givings_weigh_61 rfl rfl) (e_iconst d_Givings_weigh_62 (by decide)) (by decide) rfl tw_455 rfl d_Givings_weigh_63) (s_seq (sl1 := [(0, 1), (1, 1)]) (p1 := 71) (s_put (k0 := 2) (p1 := 67) (p2 := 68) cf_8 (e_aload_n (k0 := 0) d_Givings_weigh_66 rfl rfl) (e_iload_n (k0 := 1) d_Givings_weigh_67 rfl rfl) (by decide) fk_i tw_442 (Or.inl rfl) d_Givings_weigh_68) (s_cpy (p1 := 75) (p2 := 76) (p3 := 80) (p4 := 81) (p5 := 82) (e_gR (k0 := 10) (p1 := 72) cf_8 (e_aload_n (k0 := 0) d_Givings_weigh_71 rfl rfl) (by decide) tw_453 d_Givings_weigh_72) (e_iconst d_Givings_weigh_75 (by decide)) (e_gR (k0 := 4) (p1 := 77) cf_8 (e_aload_n (k0 := 0) d_Givings_weigh_76 rfl rfl) (by decide) tw_446 d_Givings_weigh_77) (e_iconst d_Givings_weigh_80 (by decide)) (e_iconst d_Givings_weigh_81 (by decide)) ⟨tw_1109, tw_854, tw_853, tw_141⟩ (by decide) d_Givings_weigh_82))) s_skip) (s_seq (sl1 := [(0, 1), (1, 1)]) (p1 := 93) (s_if (pt := 92) (pf := 93) (c_not (c_if_neT (p1 := 89) (tg := 93) (e_cI (p1 := 86) (a_cons (ι := Value.ref) (k0 := 1) (p1 := 86) (fun _ => rfl) (e_aload_n (k0 := 0) d_Givings_weigh_85 rfl rfl) a_nil) (k_virt ok_Givings_isRest mf_Givings_isRest ⟨tw_1112, tw_36⟩ rfl tw_1110 d_Givings_weigh_86 (by decide) (by decide) (by decide))) d_Givings_weigh_89 rfl)) (s_retV rfl d_Givings_weigh_92) s_skip) (s_seq (sl1 := [(0, 1), (1, 1)]) (p1 := 127) (s_if (pt := 108) (pf := 127) (c_or (p1 := 100) (c_if_eqT (p1 := 97) (tg := 108) (e_gI (k0 := 0) (p1 := 94) cf_8 (e_aload_n (k0 := 0) d_Givings_weigh_93 rfl rfl) (by decide) tw_438 d_Givings_weigh_94) d_Givings_weigh_97 rfl) (c_icmp_leF (p1 := 101) (p2 := 105) (tg := 127) (e_iload_n (k0 := 1) d_Givings_weigh_100 rfl rfl) (e_gI (k0 := 1) (p1 := 102) cf_8 (e_aload_n (k0 := 0) d_Givings_weigh_101 rfl rfl) (by decide) tw_440 d_Givings_weigh_102) d_Givings_weigh_105 rfl)) (s_seq (sl1 := [(0, 1), (1, 1)]) (p1 := 113) (s_put (k0 := 1) (p1 := 109) (p2 := 110) cf_8 (e_aload_n (k0 := 0) d_Givings_weigh_108 rfl rfl) (e_iload_n (k0 := 1) d_Givings_weigh_109 rfl rfl) (by decide) fk_i tw_440 (Or.inl rfl) d_Givings_weigh_110) (s_cpy (p1 := 117) (p2 := 118) (p3 := 122) (p4 := 123) (p5 := 124) (e_gR (k0 := 10) (p1 := 114) cf_8 (e_aload_n (k0 := 0) d_Givings_weigh_113 rfl rfl) (by decide) tw_453 d_Givings_weigh_114) (e_iconst d_Givings_weigh_117 (by decide)) (e_gR (k0 := 3) (p1 := 119) cf_8 (e_aload_n (k0 := 0) d_Givings_weigh_118 rfl rfl) (by decide) tw_444 d_Givings_weigh_119) (e_iconst d_Givings_weigh_122 (by decide)) (e_iconst d_Givings_weigh_123 (by decide)) ⟨tw_1109, tw_854, tw_853, tw_141⟩ (by decide) d_Givings_weigh_124)) s_skip) (s_seq (sl1 := [(0, 1), (1, 1)]) (p1 := 137) (s_fop (k0 := 0) (p1 := 128) (p2 := 133) cf_8 (e_aload_n (k0 := 0) d_Givings_weigh_127 rfl rfl) d_Givings_weigh_128 d_Givings_weigh_129 (e_iconst d_Givings_weigh_132 (by decide)) (op_iadd d_Givings_weigh_133) (by decide) rfl tw_438 tw_438 rfl d_Givings_weigh_134) (s_retV rfl d_Givings_weigh_137))))))))
abbrev y_Givings_giveFrom : MethodName := ⟨"BlinkerCross$Givings", "giveFrom", "(I)V"⟩
theorem mf_Givings_giveFrom : Mf y_Givings_giveFrom prog_3_method_8_code 3 none 1 := ⟨tw_1100, tw_130, by decide +kernel⟩
/-! BlinkerCross$Givings.giveFrom(I)V -/
abbrev Y_Givings_giveFrom (lv : Nat) : Yt := (prog_3_method_8_code, 3, "BlinkerCross$Givings", lv, none, "giveFrom")
theorem d_Givings_giveFrom_0 : decode prog_3_method_8_code 0 = .ok (.iload_n 1, 1) := by decide +kernel
theorem d_Givings_giveFrom_1 : decode prog_3_method_8_code 1 = .ok (.aload_n 0, 1) := by decide +kernel
theorem d_Givings_giveFrom_2 : decode prog_3_method_8_code 2 = .ok (.getfield 37, 3) := by decide +kernel
theorem d_Givings_giveFrom_5 : decode prog_3_method_8_code 5 = .ok (.getfield 77, 3) := by decide +kernel
theorem d_Givings_giveFrom_8 : decode prog_3_method_8_code 8 = .ok (.if_icmp .lt 8, 3) := by decide +kernel
theorem d_Givings_giveFrom_11 : decode prog_3_method_8_code 11 = .ok (.aload_n 0, 1) := by decide +kernel
theorem d_Givings_giveFrom_12 : decode prog_3_method_8_code 12 = .ok (.invokevirtual 111, 3) := by decide +kernel
theorem d_Givings_giveFrom_15 : decode prog_3_method_8_code 15 = .ok (.return_, 1) := by decide +kernel
theorem d_Givings_giveFrom_16 : decode prog_3_method_8_code 16 = .ok (.iconst 0, 1) := by decide +kernel
theorem d_Givings_giveFrom_17 : decode prog_3_method_8_code 17 = .ok (.istore_n 2, 1) := by decide +kernel
theorem d_Givings_giveFrom_18 : decode prog_3_method_8_code 18 = .ok (.iload_n 2, 1) := by decide +kernel
theorem d_Givings_giveFrom_19 : decode prog_3_method_8_code 19 = .ok (.aload_n 0, 1) := by decide +kernel
theorem d_Givings_giveFrom_20 : decode prog_3_method_8_code 20 = .ok (.getfield 37, 3) := by decide +kernel
theorem d_Givings_giveFrom_23 : decode prog_3_method_8_code 23 = .ok (.getfield 99, 3) := by decide +kernel
theorem d_Givings_giveFrom_26 : decode prog_3_method_8_code 26 = .ok (.if_icmp .ge 57, 3) := by decide +kernel
theorem d_Givings_giveFrom_29 : decode prog_3_method_8_code 29 = .ok (.aload_n 0, 1) := by decide +kernel
theorem d_Givings_giveFrom_30 : decode prog_3_method_8_code 30 = .ok (.getfield 18, 3) := by decide +kernel
theorem d_Givings_giveFrom_33 : decode prog_3_method_8_code 33 = .ok (.iload_n 1, 1) := by decide +kernel
theorem d_Givings_giveFrom_34 : decode prog_3_method_8_code 34 = .ok (.iaload, 1) := by decide +kernel
theorem d_Givings_giveFrom_35 : decode prog_3_method_8_code 35 = .ok (.iload_n 2, 1) := by decide +kernel
theorem d_Givings_giveFrom_36 : decode prog_3_method_8_code 36 = .ok (.ishr, 1) := by decide +kernel
theorem d_Givings_giveFrom_37 : decode prog_3_method_8_code 37 = .ok (.iconst 1, 1) := by decide +kernel
theorem d_Givings_giveFrom_38 : decode prog_3_method_8_code 38 = .ok (.iand, 1) := by decide +kernel
theorem d_Givings_giveFrom_39 : decode prog_3_method_8_code 39 = .ok (.iconst 1, 1) := by decide +kernel
theorem d_Givings_giveFrom_40 : decode prog_3_method_8_code 40 = .ok (.if_icmp .ne 37, 3) := by decide +kernel
theorem d_Givings_giveFrom_43 : decode prog_3_method_8_code 43 = .ok (.aload_n 0, 1) := by decide +kernel
theorem d_Givings_giveFrom_44 : decode prog_3_method_8_code 44 = .ok (.getfield 24, 3) := by decide +kernel
theorem d_Givings_giveFrom_47 : decode prog_3_method_8_code 47 = .ok (.iload_n 1, 1) := by decide +kernel
theorem d_Givings_giveFrom_48 : decode prog_3_method_8_code 48 = .ok (.iload_n 2, 1) := by decide +kernel
theorem d_Givings_giveFrom_49 : decode prog_3_method_8_code 49 = .ok (.iastore, 1) := by decide +kernel
theorem d_Givings_giveFrom_50 : decode prog_3_method_8_code 50 = .ok (.aload_n 0, 1) := by decide +kernel
theorem d_Givings_giveFrom_51 : decode prog_3_method_8_code 51 = .ok (.getfield 27, 3) := by decide +kernel
theorem d_Givings_giveFrom_54 : decode prog_3_method_8_code 54 = .ok (.iload_n 2, 1) := by decide +kernel
theorem d_Givings_giveFrom_55 : decode prog_3_method_8_code 55 = .ok (.dup2, 1) := by decide +kernel
theorem d_Givings_giveFrom_56 : decode prog_3_method_8_code 56 = .ok (.iaload, 1) := by decide +kernel
theorem d_Givings_giveFrom_57 : decode prog_3_method_8_code 57 = .ok (.iconst 1, 1) := by decide +kernel
theorem d_Givings_giveFrom_58 : decode prog_3_method_8_code 58 = .ok (.iadd, 1) := by decide +kernel
theorem d_Givings_giveFrom_59 : decode prog_3_method_8_code 59 = .ok (.iastore, 1) := by decide +kernel
theorem d_Givings_giveFrom_60 : decode prog_3_method_8_code 60 = .ok (.aload_n 0, 1) := by decide +kernel
theorem d_Givings_giveFrom_61 : decode prog_3_method_8_code 61 = .ok (.iload_n 1, 1) := by decide +kernel
theorem d_Givings_giveFrom_62 : decode prog_3_method_8_code 62 = .ok (.iconst 1, 1) := by decide +kernel
theorem d_Givings_giveFrom_63 : decode prog_3_method_8_code 63 = .ok (.iadd, 1) := by decide +kernel
theorem d_Givings_giveFrom_64 : decode prog_3_method_8_code 64 = .ok (.invokevirtual 73, 3) := by decide +kernel
theorem d_Givings_giveFrom_67 : decode prog_3_method_8_code 67 = .ok (.aload_n 0, 1) := by decide +kernel
theorem d_Givings_giveFrom_68 : decode prog_3_method_8_code 68 = .ok (.getfield 27, 3) := by decide +kernel
theorem d_Givings_giveFrom_71 : decode prog_3_method_8_code 71 = .ok (.iload_n 2, 1) := by decide +kernel
theorem d_Givings_giveFrom_72 : decode prog_3_method_8_code 72 = .ok (.dup2, 1) := by decide +kernel
theorem d_Givings_giveFrom_73 : decode prog_3_method_8_code 73 = .ok (.iaload, 1) := by decide +kernel
theorem d_Givings_giveFrom_74 : decode prog_3_method_8_code 74 = .ok (.iconst 1, 1) := by decide +kernel
theorem d_Givings_giveFrom_75 : decode prog_3_method_8_code 75 = .ok (.isub, 1) := by decide +kernel
theorem d_Givings_giveFrom_76 : decode prog_3_method_8_code 76 = .ok (.iastore, 1) := by decide +kernel
theorem d_Givings_giveFrom_77 : decode prog_3_method_8_code 77 = .ok (.iinc 2 1, 3) := by decide +kernel
theorem d_Givings_giveFrom_80 : decode prog_3_method_8_code 80 = .ok (.goto (-62), 3) := by decide +kernel
theorem d_Givings_giveFrom_83 : decode prog_3_method_8_code 83 = .ok (.return_, 1) := by decide +kernel
noncomputable def Lc_Givings_giveFrom_1 (R : Dn) : Xp Bool := o2 (fun x y => decide (x < y)) (vI 2) (gI 2 0 (gR 8 5 (vR 0)))
noncomputable def Lb_Givings_giveFrom_1 (R : Dn) : Sm := sIf (o2 (fun x y => decide (x = y)) (o2 (fun x y => x &&& y) (o2 (fun (x y : Int32) => x >>> (y &&& 31)) (aI 0 (gR 8 8 (vR 0)) (vI 1)) (vI 2)) (kI (ii 1))) (kI (ii 1))) (sSeq (sAst 0 (gR 8 10 (vR 0)) (vI 1) (vI 2)) (sSeq (sAop 0 (gR 8 11 (vR 0)) (vI 2) (fun x y => x + y) (kI (ii 1))) (sSeq (sCall (mV 8 R) [asV Value.ref (vR 0), asV Value.int (o2 (fun x y => x + y) (vI 1) (kI (ii 1)))]) (sAop 0 (gR 8 11 (vR 0)) (vI 2) (fun x y => x - y) (kI (ii 1)))))) (sSkip)
noncomputable def Lu_Givings_giveFrom_1 : Sm := sInc 2 (ii 1)
noncomputable def F_Givings_giveFrom (R : Dn) : Sm := sSeq (sIf (o2 (fun x y => decide (x ≥ y)) (vI 1) (gI 2 1 (gR 8 5 (vR 0)))) (sSeq (sCall (mV 8 D_Givings_weigh) [asV Value.ref (vR 0)]) (sRetV)) (sSkip)) (sSeq (sBlk 2 (sSeq (sDecl (asV Value.int (kI (ii 0)))) (sWh (Lc_Givings_giveFrom_1 R) (Lb_Givings_giveFrom_1 R) Lu_Givings_giveFrom_1))) (sRetV))
theorem okR_Givings_giveFrom {R : Dn} {lr lv : Nat} (hR : MOK y_Givings_giveFrom prog_3_method_8_code 3 none lr 0 0 R) (hl : lr + 1 ≤ lv) (hb : 4 ≤ lv) : MOK y_Givings_giveFrom prog_3_method_8_code 3 none lv 0 0 (runS [1, 1] (F_Givings_giveFrom R)) := MOK.of (by decide) (by decide) (show SO (Y_Givings_giveFrom lv) [(0, 1), (1, 1)] [(0, 1), (1, 1)] 0 84 (([], 0), ([], 0)) (F_Givings_giveFrom R) from
  (s_seq (sl1 := [(0, 1), (1, 1)]) (p1 := 16) (s_if (pt := 11) (pf := 16) (c_icmp_ltF (p1 := 1) (p2 := 8) (tg := 16) (e_iload_n (k0 := 1) d_Givings_giveFrom_0 rfl rfl) (e_gI (k0 := 1) (p1 := 5) cf_2 (e_gR (k0 := 5) (p1 := 2) cf_8 (e_aload_n (k0 := 0) d_Givings_giveFrom_1 rfl rfl) (by decide) tw_448 d_Givings_giveFrom_2) (by decide) tw_207 d_Givings_giveFrom_5) d_Givings_giveFrom_8 rfl) (s_seq (sl1 := [(0, 1), (1, 1)]) (p1 := 15) (s_call (p1 := 12) (a_cons (ι := Value.ref) (k0 := 1) (p1 := 12) (fun _ => rfl) (e_aload_n (k0 := 0) d_Givings_giveFrom_11 rfl rfl) a_nil) (k_virt ok_Givings_weigh mf_Givings_weigh ⟨tw_1103, tw_34⟩ rfl tw_1101 d_Givings_giveFrom_12 (by show _ ≤ lv; omega) (by decide) (by decide))) (s_retV rfl d_Givings_giveFrom_15)) s_skip) (s_seq (sl1 := [(0, 1), (1, 1)]) (p1 := 83) (s_blk (sl1 := [(0, 1), (1, 1), (2, 1)]) (s_seq (sl1 := [(0, 1), (1, 1), (2, 1)]) (p1 := 18) (s_decl (p1 := 17) (e_iconst d_Givings_giveFrom_16 (by decide)) (t_istore_n d_Givings_giveFrom_17 rfl (Nat.le_of_ble_eq_true rfl)) rfl) (s_for (pt := 29) (pu := 77) (pf := 83) (pg := 0) (c_icmp_geF (p1 := 19) (p2 := 26) (tg := 83) (e_iload_n (k0 := 2) d_Givings_giveFrom_18 rfl rfl) (e_gI (k0 := 0) (p1 := 23) cf_2 (e_gR (k0 := 5) (p1 := 20) cf_8 (e_aload_n (k0 := 0) d_Givings_giveFrom_19 rfl rfl) (by decide) tw_448 d_Givings_giveFrom_20) (by decide) tw_199 d_Givings_giveFrom_23) d_Givings_giveFrom_26 rfl) (s_if (pt := 43) (pf := 77) (c_icmp_neF (p1 := 39) (p2 := 40) (tg := 77) (e_iand (p1 := 37) (p2 := 38) (e_ishr (p1 := 35) (p2 := 36) (e_iald (p1 := 33) (p2 := 34) (e_gR (k0 := 8) (p1 := 30) cf_8 (e_aload_n (k0 := 0) d_Givings_giveFrom_29 rfl rfl) (by decide) tw_451 d_Givings_giveFrom_30) (e_iload_n (k0 := 1) d_Givings_giveFrom_33 rfl rfl) d_Givings_giveFrom_34) (e_iload_n (k0 := 2) d_Givings_giveFrom_35 rfl rfl) d_Givings_giveFrom_36) (e_iconst d_Givings_giveFrom_37 (by decide)) d_Givings_giveFrom_38) (e_iconst d_Givings_giveFrom_39 (by decide)) d_Givings_giveFrom_40 rfl) (s_seq (sl1 := [(0, 1), (1, 1), (2, 1)]) (p1 := 50) (s_ast (p1 := 47) (p2 := 48) (p3 := 49) (e_gR (k0 := 10) (p1 := 44) cf_8 (e_aload_n (k0 := 0) d_Givings_giveFrom_43 rfl rfl) (by decide) tw_453 d_Givings_giveFrom_44) (e_iload_n (k0 := 1) d_Givings_giveFrom_47 rfl rfl) (e_iload_n (k0 := 2) d_Givings_giveFrom_48 rfl rfl) (as_i d_Givings_giveFrom_49)) (s_seq (sl1 := [(0, 1), (1, 1), (2, 1)]) (p1 := 60) (s_aop (p1 := 54) (p2 := 55) (p3 := 58) (e_gR (k0 := 11) (p1 := 51) cf_8 (e_aload_n (k0 := 0) d_Givings_giveFrom_50 rfl rfl) (by decide) tw_454 d_Givings_giveFrom_51) (e_iload_n (k0 := 2) d_Givings_giveFrom_54 rfl rfl) d_Givings_giveFrom_55 (ad_i d_Givings_giveFrom_56) (e_iconst d_Givings_giveFrom_57 (by decide)) (op_iadd d_Givings_giveFrom_58) (as_i d_Givings_giveFrom_59)) (s_seq (sl1 := [(0, 1), (1, 1), (2, 1)]) (p1 := 67) (s_call (p1 := 64) (a_cons (ι := Value.ref) (k0 := 1) (p1 := 61) (fun _ => rfl) (e_aload_n (k0 := 0) d_Givings_giveFrom_60 rfl rfl) (a_cons (ι := Value.int) (k0 := 1) (p1 := 64) (fun _ => rfl) (e_iadd (p1 := 62) (p2 := 63) (e_iload_n (k0 := 1) d_Givings_giveFrom_61 rfl rfl) (e_iconst d_Givings_giveFrom_62 (by decide)) d_Givings_giveFrom_63) a_nil)) (k_virt hR mf_Givings_giveFrom ⟨tw_1099, tw_33⟩ rfl tw_1097 d_Givings_giveFrom_64 (by show _ ≤ lv; omega) (by decide) (by decide))) (s_aop (p1 := 71) (p2 := 72) (p3 := 75) (e_gR (k0 := 11) (p1 := 68) cf_8 (e_aload_n (k0 := 0) d_Givings_giveFrom_67 rfl rfl) (by decide) tw_454 d_Givings_giveFrom_68) (e_iload_n (k0 := 2) d_Givings_giveFrom_71 rfl rfl) d_Givings_giveFrom_72 (ad_i d_Givings_giveFrom_73) (e_iconst d_Givings_giveFrom_74 (by decide)) (op_isub d_Givings_giveFrom_75) (as_i d_Givings_giveFrom_76))))) s_skip) (s_goto (p1 := 80) (s_inc (k0 := 2) d_Givings_giveFrom_77 rfl rfl (Nat.le_of_ble_eq_true rfl) rfl) d_Givings_giveFrom_80 rfl))) rfl) (s_retV rfl d_Givings_giveFrom_83))))
noncomputable def U_Givings_giveFrom : Nat → Dn
  | 0 => fun _ _ => none
  | n + 1 => runS [1, 1] (F_Givings_giveFrom (U_Givings_giveFrom n))
theorem okU_Givings_giveFrom : ∀ n, MOK y_Givings_giveFrom prog_3_method_8_code 3 none (4 + n) 0 0 (U_Givings_giveFrom n)
  | 0 => fun _ _ _ _ _ _ _ _ _ _ _ _ h => by cases h
  | n + 1 => okR_Givings_giveFrom (okU_Givings_giveFrom n) (by omega) (by omega)
noncomputable def D_Givings_giveFrom : Dn := U_Givings_giveFrom 6
theorem ok_Givings_giveFrom : MOK y_Givings_giveFrom prog_3_method_8_code 3 none 10 0 0 D_Givings_giveFrom := okU_Givings_giveFrom 6
/-! BlinkerCross$Givings.weighAll()V -/
abbrev y_Givings_weighAll : MethodName := ⟨"BlinkerCross$Givings", "weighAll", "()V"⟩
abbrev Y_Givings_weighAll : Yt := (prog_3_method_2_code, 1, "BlinkerCross$Givings", 11, none, "weighAll")
theorem d_Givings_weighAll_0 : decode prog_3_method_2_code 0 = .ok (.aload_n 0, 1) := by decide +kernel
theorem d_Givings_weighAll_1 : decode prog_3_method_2_code 1 = .ok (.getfield 34, 3) := by decide +kernel
theorem d_Givings_weighAll_4 : decode prog_3_method_2_code 4 = .ok (.aload_n 0, 1) := by decide +kernel
theorem d_Givings_weighAll_5 : decode prog_3_method_2_code 5 = .ok (.getfield 41, 3) := by decide +kernel
theorem d_Givings_weighAll_8 : decode prog_3_method_2_code 8 = .ok (.getfield 49, 3) := by decide +kernel
theorem d_Givings_weighAll_11 : decode prog_3_method_2_code 11 = .ok (.if_icmp .ne 4, 3) := by decide +kernel
theorem d_Givings_weighAll_14 : decode prog_3_method_2_code 14 = .ok (.return_, 1) := by decide +kernel
theorem d_Givings_weighAll_15 : decode prog_3_method_2_code 15 = .ok (.aload_n 0, 1) := by decide +kernel
theorem d_Givings_weighAll_16 : decode prog_3_method_2_code 16 = .ok (.aload_n 0, 1) := by decide +kernel
theorem d_Givings_weighAll_17 : decode prog_3_method_2_code 17 = .ok (.getfield 41, 3) := by decide +kernel
theorem d_Givings_weighAll_20 : decode prog_3_method_2_code 20 = .ok (.getfield 49, 3) := by decide +kernel
theorem d_Givings_weighAll_23 : decode prog_3_method_2_code 23 = .ok (.putfield 34, 3) := by decide +kernel
theorem d_Givings_weighAll_26 : decode prog_3_method_2_code 26 = .ok (.aload_n 0, 1) := by decide +kernel
theorem d_Givings_weighAll_27 : decode prog_3_method_2_code 27 = .ok (.invokevirtual 54, 3) := by decide +kernel
theorem d_Givings_weighAll_30 : decode prog_3_method_2_code 30 = .ok (.aload_n 0, 1) := by decide +kernel
theorem d_Givings_weighAll_31 : decode prog_3_method_2_code 31 = .ok (.iconst 0, 1) := by decide +kernel
theorem d_Givings_weighAll_32 : decode prog_3_method_2_code 32 = .ok (.putfield 57, 3) := by decide +kernel
theorem d_Givings_weighAll_35 : decode prog_3_method_2_code 35 = .ok (.aload_n 0, 1) := by decide +kernel
theorem d_Givings_weighAll_36 : decode prog_3_method_2_code 36 = .ok (.iconst 0, 1) := by decide +kernel
theorem d_Givings_weighAll_37 : decode prog_3_method_2_code 37 = .ok (.putfield 60, 3) := by decide +kernel
theorem d_Givings_weighAll_40 : decode prog_3_method_2_code 40 = .ok (.aload_n 0, 1) := by decide +kernel
theorem d_Givings_weighAll_41 : decode prog_3_method_2_code 41 = .ok (.iconst 0, 1) := by decide +kernel
theorem d_Givings_weighAll_42 : decode prog_3_method_2_code 42 = .ok (.putfield 63, 3) := by decide +kernel
theorem d_Givings_weighAll_45 : decode prog_3_method_2_code 45 = .ok (.aload_n 0, 1) := by decide +kernel
theorem d_Givings_weighAll_46 : decode prog_3_method_2_code 46 = .ok (.iconst 0, 1) := by decide +kernel
theorem d_Givings_weighAll_47 : decode prog_3_method_2_code 47 = .ok (.putfield 66, 3) := by decide +kernel
theorem d_Givings_weighAll_50 : decode prog_3_method_2_code 50 = .ok (.aload_n 0, 1) := by decide +kernel
theorem d_Givings_weighAll_51 : decode prog_3_method_2_code 51 = .ok (.invokevirtual 70, 3) := by decide +kernel
theorem d_Givings_weighAll_54 : decode prog_3_method_2_code 54 = .ok (.aload_n 0, 1) := by decide +kernel
theorem d_Givings_weighAll_55 : decode prog_3_method_2_code 55 = .ok (.iconst 0, 1) := by decide +kernel
theorem d_Givings_weighAll_56 : decode prog_3_method_2_code 56 = .ok (.invokevirtual 73, 3) := by decide +kernel
theorem d_Givings_weighAll_59 : decode prog_3_method_2_code 59 = .ok (.return_, 1) := by decide +kernel
noncomputable def F_Givings_weighAll : Sm := sSeq (sIf (o2 (fun x y => decide (x = y)) (gI 8 14 (vR 0)) (gI 4 3 (gR 8 6 (vR 0)))) (sRetV) (sSkip)) (sSeq (sPut 8 14 (vR 0) (asV Value.int (gI 4 3 (gR 8 6 (vR 0))))) (sSeq (sCall (mV 8 D_Givings_fillGains) [asV Value.ref (vR 0)]) (sSeq (sPut 8 0 (vR 0) (asV Value.int (kI (ii 0)))) (sSeq (sPut 8 1 (vR 0) (asV Value.int (kI (ii 0)))) (sSeq (sPut 8 2 (vR 0) (asV Value.int (kI (ii 0)))) (sSeq (sPutZ 8 12 (vR 0) (kI (ii 0))) (sSeq (sCall (mV 8 D_Givings_clearTakers) [asV Value.ref (vR 0)]) (sSeq (sCall (mV 8 D_Givings_giveFrom) [asV Value.ref (vR 0), asV Value.int (kI (ii 0))]) (sRetV)))))))))
theorem mf_Givings_weighAll : Mf y_Givings_weighAll prog_3_method_2_code 1 none 0 := ⟨tw_1083, tw_130, by decide +kernel⟩
noncomputable def D_Givings_weighAll : Dn := runS [1] F_Givings_weighAll
theorem ok_Givings_weighAll : MOK y_Givings_weighAll prog_3_method_2_code 1 none 11 0 0 D_Givings_weighAll := MOK.of (by decide) (by decide) (show SO Y_Givings_weighAll [(0, 1)] [(0, 1)] 0 60 (([], 0), ([], 0)) F_Givings_weighAll from
  (s_seq (sl1 := [(0, 1)]) (p1 := 15) (s_if (pt := 14) (pf := 15) (c_icmp_neF (p1 := 4) (p2 := 11) (tg := 15) (e_gI (k0 := 14) (p1 := 1) cf_8 (e_aload_n (k0 := 0) d_Givings_weighAll_0 rfl rfl) (by decide) tw_457 d_Givings_weighAll_1) (e_gI (k0 := 3) (p1 := 8) cf_4 (e_gR (k0 := 6) (p1 := 5) cf_8 (e_aload_n (k0 := 0) d_Givings_weighAll_4 rfl rfl) (by decide) tw_449 d_Givings_weighAll_5) (by decide) tw_331 d_Givings_weighAll_8) d_Givings_weighAll_11 rfl) (s_retV rfl d_Givings_weighAll_14) s_skip) (s_seq (sl1 := [(0, 1)]) (p1 := 26) (s_put (k0 := 14) (p1 := 16) (p2 := 23) cf_8 (e_aload_n (k0 := 0) d_Givings_weighAll_15 rfl rfl) (e_gI (k0 := 3) (p1 := 20) cf_4 (e_gR (k0 := 6) (p1 := 17) cf_8 (e_aload_n (k0 := 0) d_Givings_weighAll_16 rfl rfl) (by decide) tw_449 d_Givings_weighAll_17) (by decide) tw_331 d_Givings_weighAll_20) (by decide) fk_i tw_457 (Or.inl rfl) d_Givings_weighAll_23) (s_seq (sl1 := [(0, 1)]) (p1 := 30) (s_call (p1 := 27) (a_cons (ι := Value.ref) (k0 := 1) (p1 := 27) (fun _ => rfl) (e_aload_n (k0 := 0) d_Givings_weighAll_26 rfl rfl) a_nil) (k_virt ok_Givings_fillGains mf_Givings_fillGains ⟨tw_1086, tw_31⟩ rfl tw_1084 d_Givings_weighAll_27 (by decide) (by decide) (by decide))) (s_seq (sl1 := [(0, 1)]) (p1 := 35) (s_put (k0 := 0) (p1 := 31) (p2 := 32) cf_8 (e_aload_n (k0 := 0) d_Givings_weighAll_30 rfl rfl) (e_iconst d_Givings_weighAll_31 (by decide)) (by decide) fk_i tw_438 (Or.inl rfl) d_Givings_weighAll_32) (s_seq (sl1 := [(0, 1)]) (p1 := 40) (s_put (k0 := 1) (p1 := 36) (p2 := 37) cf_8 (e_aload_n (k0 := 0) d_Givings_weighAll_35 rfl rfl) (e_iconst d_Givings_weighAll_36 (by decide)) (by decide) fk_i tw_440 (Or.inl rfl) d_Givings_weighAll_37) (s_seq (sl1 := [(0, 1)]) (p1 := 45) (s_put (k0 := 2) (p1 := 41) (p2 := 42) cf_8 (e_aload_n (k0 := 0) d_Givings_weighAll_40 rfl rfl) (e_iconst d_Givings_weighAll_41 (by decide)) (by decide) fk_i tw_442 (Or.inl rfl) d_Givings_weighAll_42) (s_seq (sl1 := [(0, 1)]) (p1 := 50) (s_putZ (k0 := 12) (p1 := 46) (p2 := 47) cf_8 (e_aload_n (k0 := 0) d_Givings_weighAll_45 rfl rfl) (e_iconst d_Givings_weighAll_46 (by decide)) (by decide) rfl tw_455 rfl d_Givings_weighAll_47) (s_seq (sl1 := [(0, 1)]) (p1 := 54) (s_call (p1 := 51) (a_cons (ι := Value.ref) (k0 := 1) (p1 := 51) (fun _ => rfl) (e_aload_n (k0 := 0) d_Givings_weighAll_50 rfl rfl) a_nil) (k_virt ok_Givings_clearTakers mf_Givings_clearTakers ⟨tw_1095, tw_32⟩ rfl tw_1093 d_Givings_weighAll_51 (by decide) (by decide) (by decide))) (s_seq (sl1 := [(0, 1)]) (p1 := 59) (s_call (p1 := 56) (a_cons (ι := Value.ref) (k0 := 1) (p1 := 55) (fun _ => rfl) (e_aload_n (k0 := 0) d_Givings_weighAll_54 rfl rfl) (a_cons (ι := Value.int) (k0 := 1) (p1 := 56) (fun _ => rfl) (e_iconst d_Givings_weighAll_55 (by decide)) a_nil)) (k_virt ok_Givings_giveFrom mf_Givings_giveFrom ⟨tw_1099, tw_33⟩ rfl tw_1097 d_Givings_weighAll_56 (by decide) (by decide) (by decide))) (s_retV rfl d_Givings_weighAll_59)))))))))))
/-! BlinkerCross$Givings.bestMove(I)I -/
abbrev y_Givings_bestMove : MethodName := ⟨"BlinkerCross$Givings", "bestMove", "(I)I"⟩
abbrev Y_Givings_bestMove : Yt := (prog_3_method_12_code, 6, "BlinkerCross$Givings", 2, (some .int), "bestMove")
theorem d_Givings_bestMove_0 : decode prog_3_method_12_code 0 = .ok (.aload_n 0, 1) := by decide +kernel
theorem d_Givings_bestMove_1 : decode prog_3_method_12_code 1 = .ok (.getfield 24, 3) := by decide +kernel
theorem d_Givings_bestMove_4 : decode prog_3_method_12_code 4 = .ok (.iload_n 1, 1) := by decide +kernel
theorem d_Givings_bestMove_5 : decode prog_3_method_12_code 5 = .ok (.iaload, 1) := by decide +kernel
theorem d_Givings_bestMove_6 : decode prog_3_method_12_code 6 = .ok (.istore_n 2, 1) := by decide +kernel
theorem d_Givings_bestMove_7 : decode prog_3_method_12_code 7 = .ok (.aload_n 0, 1) := by decide +kernel
theorem d_Givings_bestMove_8 : decode prog_3_method_12_code 8 = .ok (.iload_n 1, 1) := by decide +kernel
theorem d_Givings_bestMove_9 : decode prog_3_method_12_code 9 = .ok (.iload_n 2, 1) := by decide +kernel
theorem d_Givings_bestMove_10 : decode prog_3_method_12_code 10 = .ok (.aload_n 0, 1) := by decide +kernel
theorem d_Givings_bestMove_11 : decode prog_3_method_12_code 11 = .ok (.getfield 27, 3) := by decide +kernel
theorem d_Givings_bestMove_14 : decode prog_3_method_12_code 14 = .ok (.iload_n 2, 1) := by decide +kernel
theorem d_Givings_bestMove_15 : decode prog_3_method_12_code 15 = .ok (.iaload, 1) := by decide +kernel
theorem d_Givings_bestMove_16 : decode prog_3_method_12_code 16 = .ok (.invokevirtual 114, 3) := by decide +kernel
theorem d_Givings_bestMove_19 : decode prog_3_method_12_code 19 = .ok (.istore_n 3, 1) := by decide +kernel
theorem d_Givings_bestMove_20 : decode prog_3_method_12_code 20 = .ok (.iconst 0, 1) := by decide +kernel
theorem d_Givings_bestMove_21 : decode prog_3_method_12_code 21 = .ok (.istore 4, 2) := by decide +kernel
theorem d_Givings_bestMove_23 : decode prog_3_method_12_code 23 = .ok (.iload 4, 2) := by decide +kernel
theorem d_Givings_bestMove_25 : decode prog_3_method_12_code 25 = .ok (.aload_n 0, 1) := by decide +kernel
theorem d_Givings_bestMove_26 : decode prog_3_method_12_code 26 = .ok (.getfield 41, 3) := by decide +kernel
theorem d_Givings_bestMove_29 : decode prog_3_method_12_code 29 = .ok (.iload_n 1, 1) := by decide +kernel
theorem d_Givings_bestMove_30 : decode prog_3_method_12_code 30 = .ok (.invokevirtual 131, 3) := by decide +kernel
theorem d_Givings_bestMove_33 : decode prog_3_method_12_code 33 = .ok (.if_icmp .ge 72, 3) := by decide +kernel
theorem d_Givings_bestMove_36 : decode prog_3_method_12_code 36 = .ok (.aload_n 0, 1) := by decide +kernel
theorem d_Givings_bestMove_37 : decode prog_3_method_12_code 37 = .ok (.getfield 41, 3) := by decide +kernel
theorem d_Givings_bestMove_40 : decode prog_3_method_12_code 40 = .ok (.iload_n 1, 1) := by decide +kernel
theorem d_Givings_bestMove_41 : decode prog_3_method_12_code 41 = .ok (.iload 4, 2) := by decide +kernel
theorem d_Givings_bestMove_43 : decode prog_3_method_12_code 43 = .ok (.invokevirtual 134, 3) := by decide +kernel
theorem d_Givings_bestMove_46 : decode prog_3_method_12_code 46 = .ok (.istore 5, 2) := by decide +kernel
theorem d_Givings_bestMove_48 : decode prog_3_method_12_code 48 = .ok (.iload 5, 2) := by decide +kernel
theorem d_Givings_bestMove_50 : decode prog_3_method_12_code 50 = .ok (.aload_n 0, 1) := by decide +kernel
theorem d_Givings_bestMove_51 : decode prog_3_method_12_code 51 = .ok (.getfield 24, 3) := by decide +kernel
theorem d_Givings_bestMove_54 : decode prog_3_method_12_code 54 = .ok (.iload_n 1, 1) := by decide +kernel
theorem d_Givings_bestMove_55 : decode prog_3_method_12_code 55 = .ok (.iaload, 1) := by decide +kernel
theorem d_Givings_bestMove_56 : decode prog_3_method_12_code 56 = .ok (.if_icmp .eq 43, 3) := by decide +kernel
theorem d_Givings_bestMove_59 : decode prog_3_method_12_code 59 = .ok (.aload_n 0, 1) := by decide +kernel
theorem d_Givings_bestMove_60 : decode prog_3_method_12_code 60 = .ok (.iload_n 1, 1) := by decide +kernel
theorem d_Givings_bestMove_61 : decode prog_3_method_12_code 61 = .ok (.iload 5, 2) := by decide +kernel
theorem d_Givings_bestMove_63 : decode prog_3_method_12_code 63 = .ok (.aload_n 0, 1) := by decide +kernel
theorem d_Givings_bestMove_64 : decode prog_3_method_12_code 64 = .ok (.getfield 27, 3) := by decide +kernel
theorem d_Givings_bestMove_67 : decode prog_3_method_12_code 67 = .ok (.iload 5, 2) := by decide +kernel
theorem d_Givings_bestMove_69 : decode prog_3_method_12_code 69 = .ok (.iaload, 1) := by decide +kernel
theorem d_Givings_bestMove_70 : decode prog_3_method_12_code 70 = .ok (.iconst 1, 1) := by decide +kernel
theorem d_Givings_bestMove_71 : decode prog_3_method_12_code 71 = .ok (.iadd, 1) := by decide +kernel
theorem d_Givings_bestMove_72 : decode prog_3_method_12_code 72 = .ok (.invokevirtual 114, 3) := by decide +kernel
theorem d_Givings_bestMove_75 : decode prog_3_method_12_code 75 = .ok (.iload_n 3, 1) := by decide +kernel
theorem d_Givings_bestMove_76 : decode prog_3_method_12_code 76 = .ok (.if_icmp .le 23, 3) := by decide +kernel
theorem d_Givings_bestMove_79 : decode prog_3_method_12_code 79 = .ok (.iload 5, 2) := by decide +kernel
theorem d_Givings_bestMove_81 : decode prog_3_method_12_code 81 = .ok (.istore_n 2, 1) := by decide +kernel
theorem d_Givings_bestMove_82 : decode prog_3_method_12_code 82 = .ok (.aload_n 0, 1) := by decide +kernel
theorem d_Givings_bestMove_83 : decode prog_3_method_12_code 83 = .ok (.iload_n 1, 1) := by decide +kernel
theorem d_Givings_bestMove_84 : decode prog_3_method_12_code 84 = .ok (.iload 5, 2) := by decide +kernel
theorem d_Givings_bestMove_86 : decode prog_3_method_12_code 86 = .ok (.aload_n 0, 1) := by decide +kernel
theorem d_Givings_bestMove_87 : decode prog_3_method_12_code 87 = .ok (.getfield 27, 3) := by decide +kernel
theorem d_Givings_bestMove_90 : decode prog_3_method_12_code 90 = .ok (.iload 5, 2) := by decide +kernel
theorem d_Givings_bestMove_92 : decode prog_3_method_12_code 92 = .ok (.iaload, 1) := by decide +kernel
theorem d_Givings_bestMove_93 : decode prog_3_method_12_code 93 = .ok (.iconst 1, 1) := by decide +kernel
theorem d_Givings_bestMove_94 : decode prog_3_method_12_code 94 = .ok (.iadd, 1) := by decide +kernel
theorem d_Givings_bestMove_95 : decode prog_3_method_12_code 95 = .ok (.invokevirtual 114, 3) := by decide +kernel
theorem d_Givings_bestMove_98 : decode prog_3_method_12_code 98 = .ok (.istore_n 3, 1) := by decide +kernel
theorem d_Givings_bestMove_99 : decode prog_3_method_12_code 99 = .ok (.iinc 4 1, 3) := by decide +kernel
theorem d_Givings_bestMove_102 : decode prog_3_method_12_code 102 = .ok (.goto (-79), 3) := by decide +kernel
theorem d_Givings_bestMove_105 : decode prog_3_method_12_code 105 = .ok (.iload_n 2, 1) := by decide +kernel
theorem d_Givings_bestMove_106 : decode prog_3_method_12_code 106 = .ok (.ireturn, 1) := by decide +kernel
noncomputable def Lc_Givings_bestMove_1 : Xp Bool := o2 (fun x y => decide (x < y)) (vI 4) (cI (mV 4 D_Scene_seenCount) [asV Value.ref (gR 8 6 (vR 0)), asV Value.int (vI 1)])
noncomputable def Lb_Givings_bestMove_1 : Sm := sBlk 5 (sSeq (sDecl (asV Value.int (cI (mV 4 D_Scene_roadAt) [asV Value.ref (gR 8 6 (vR 0)), asV Value.int (vI 1), asV Value.int (vI 4)]))) (sIf (cAnd (o2 (fun x y => decide (x ≠ y)) (vI 5) (aI 0 (gR 8 10 (vR 0)) (vI 1))) (o2 (fun x y => decide (x > y)) (cI (mV 8 D_Givings_gain) [asV Value.ref (vR 0), asV Value.int (vI 1), asV Value.int (vI 5), asV Value.int (o2 (fun x y => x + y) (aI 0 (gR 8 11 (vR 0)) (vI 5)) (kI (ii 1)))]) (vI 3))) (sSeq (sSet 2 (asV Value.int (vI 5))) (sSet 3 (asV Value.int (cI (mV 8 D_Givings_gain) [asV Value.ref (vR 0), asV Value.int (vI 1), asV Value.int (vI 5), asV Value.int (o2 (fun x y => x + y) (aI 0 (gR 8 11 (vR 0)) (vI 5)) (kI (ii 1)))])))) (sSkip)))
noncomputable def Lu_Givings_bestMove_1 : Sm := sInc 4 (ii 1)
noncomputable def F_Givings_bestMove : Sm := sSeq (sDecl (asV Value.int (aI 0 (gR 8 10 (vR 0)) (vI 1)))) (sSeq (sDecl (asV Value.int (cI (mV 8 D_Givings_gain) [asV Value.ref (vR 0), asV Value.int (vI 1), asV Value.int (vI 2), asV Value.int (aI 0 (gR 8 11 (vR 0)) (vI 2))]))) (sSeq (sBlk 4 (sSeq (sDecl (asV Value.int (kI (ii 0)))) (sWh (Lc_Givings_bestMove_1) (Lb_Givings_bestMove_1) Lu_Givings_bestMove_1))) (sRet (asV Value.int (vI 2)))))
theorem mf_Givings_bestMove : Mf y_Givings_bestMove prog_3_method_12_code 6 (some .int) 1 := ⟨tw_1142, tw_130, by decide +kernel⟩
noncomputable def D_Givings_bestMove : Dn := runS [1, 1] F_Givings_bestMove
theorem ok_Givings_bestMove : MOK y_Givings_bestMove prog_3_method_12_code 6 (some .int) 2 0 0 D_Givings_bestMove := MOK.of (by decide) (by decide) (show SO Y_Givings_bestMove [(0, 1), (1, 1)] [(0, 1), (1, 1), (2, 1), (3, 1)] 0 107 (([], 0), ([], 0)) F_Givings_bestMove from
  (s_seq (sl1 := [(0, 1), (1, 1), (2, 1)]) (p1 := 7) (s_decl (p1 := 6) (e_iald (p1 := 4) (p2 := 5) (e_gR (k0 := 10) (p1 := 1) cf_8 (e_aload_n (k0 := 0) d_Givings_bestMove_0 rfl rfl) (by decide) tw_453 d_Givings_bestMove_1) (e_iload_n (k0 := 1) d_Givings_bestMove_4 rfl rfl) d_Givings_bestMove_5) (t_istore_n d_Givings_bestMove_6 rfl (by decide)) rfl) (s_seq (sl1 := [(0, 1), (1, 1), (2, 1), (3, 1)]) (p1 := 20) (s_decl (p1 := 19) (e_cI (p1 := 16) (a_cons (ι := Value.ref) (k0 := 1) (p1 := 8) (fun _ => rfl) (e_aload_n (k0 := 0) d_Givings_bestMove_7 rfl rfl) (a_cons (ι := Value.int) (k0 := 1) (p1 := 9) (fun _ => rfl) (e_iload_n (k0 := 1) d_Givings_bestMove_8 rfl rfl) (a_cons (ι := Value.int) (k0 := 1) (p1 := 10) (fun _ => rfl) (e_iload_n (k0 := 2) d_Givings_bestMove_9 rfl rfl) (a_cons (ι := Value.int) (k0 := 1) (p1 := 16) (fun _ => rfl) (e_iald (p1 := 14) (p2 := 15) (e_gR (k0 := 11) (p1 := 11) cf_8 (e_aload_n (k0 := 0) d_Givings_bestMove_10 rfl rfl) (by decide) tw_454 d_Givings_bestMove_11) (e_iload_n (k0 := 2) d_Givings_bestMove_14 rfl rfl) d_Givings_bestMove_15) a_nil)))) (k_virt ok_Givings_gain mf_Givings_gain ⟨tw_1107, tw_35⟩ rfl tw_1105 d_Givings_bestMove_16 (by decide) (by decide) (by decide))) (t_istore_n d_Givings_bestMove_19 rfl (by decide)) rfl) (s_seq (sl1 := [(0, 1), (1, 1), (2, 1), (3, 1)]) (p1 := 105) (s_blk (sl1 := [(0, 1), (1, 1), (2, 1), (3, 1), (4, 1)]) (s_seq (sl1 := [(0, 1), (1, 1), (2, 1), (3, 1), (4, 1)]) (p1 := 23) (s_decl (p1 := 21) (e_iconst d_Givings_bestMove_20 (by decide)) (t_istore d_Givings_bestMove_21 (by decide)) rfl) (s_for (pt := 36) (pu := 99) (pf := 105) (pg := 0) (c_icmp_geF (p1 := 25) (p2 := 33) (tg := 105) (e_iload (k0 := 4) d_Givings_bestMove_23 rfl) (e_cI (p1 := 30) (a_cons (ι := Value.ref) (k0 := 1) (p1 := 29) (fun _ => rfl) (e_gR (k0 := 6) (p1 := 26) cf_8 (e_aload_n (k0 := 0) d_Givings_bestMove_25 rfl rfl) (by decide) tw_449 d_Givings_bestMove_26) (a_cons (ι := Value.int) (k0 := 1) (p1 := 30) (fun _ => rfl) (e_iload_n (k0 := 1) d_Givings_bestMove_29 rfl rfl) a_nil)) (k_virt ok_Scene_seenCount mf_Scene_seenCount ⟨tw_901, tw_902⟩ rfl tw_1143 d_Givings_bestMove_30 (by decide) (by decide) (by decide))) d_Givings_bestMove_33 rfl) (s_blk (sl1 := [(0, 1), (1, 1), (2, 1), (3, 1), (4, 1), (5, 1)]) (s_seq (sl1 := [(0, 1), (1, 1), (2, 1), (3, 1), (4, 1), (5, 1)]) (p1 := 48) (s_decl (p1 := 46) (e_cI (p1 := 43) (a_cons (ι := Value.ref) (k0 := 1) (p1 := 40) (fun _ => rfl) (e_gR (k0 := 6) (p1 := 37) cf_8 (e_aload_n (k0 := 0) d_Givings_bestMove_36 rfl rfl) (by decide) tw_449 d_Givings_bestMove_37) (a_cons (ι := Value.int) (k0 := 1) (p1 := 41) (fun _ => rfl) (e_iload_n (k0 := 1) d_Givings_bestMove_40 rfl rfl) (a_cons (ι := Value.int) (k0 := 1) (p1 := 43) (fun _ => rfl) (e_iload (k0 := 4) d_Givings_bestMove_41 rfl) a_nil))) (k_virt ok_Scene_roadAt mf_Scene_roadAt ⟨tw_869, tw_870⟩ rfl tw_1144 d_Givings_bestMove_43 (by decide) (by decide) (by decide))) (t_istore d_Givings_bestMove_46 (by decide)) rfl) (s_if (pt := 79) (pf := 99) (c_and (p1 := 59) (c_icmp_eqF (p1 := 50) (p2 := 56) (tg := 99) (e_iload (k0 := 5) d_Givings_bestMove_48 rfl) (e_iald (p1 := 54) (p2 := 55) (e_gR (k0 := 10) (p1 := 51) cf_8 (e_aload_n (k0 := 0) d_Givings_bestMove_50 rfl rfl) (by decide) tw_453 d_Givings_bestMove_51) (e_iload_n (k0 := 1) d_Givings_bestMove_54 rfl rfl) d_Givings_bestMove_55) d_Givings_bestMove_56 rfl) (c_icmp_leF (p1 := 75) (p2 := 76) (tg := 99) (e_cI (p1 := 72) (a_cons (ι := Value.ref) (k0 := 1) (p1 := 60) (fun _ => rfl) (e_aload_n (k0 := 0) d_Givings_bestMove_59 rfl rfl) (a_cons (ι := Value.int) (k0 := 1) (p1 := 61) (fun _ => rfl) (e_iload_n (k0 := 1) d_Givings_bestMove_60 rfl rfl) (a_cons (ι := Value.int) (k0 := 1) (p1 := 63) (fun _ => rfl) (e_iload (k0 := 5) d_Givings_bestMove_61 rfl) (a_cons (ι := Value.int) (k0 := 1) (p1 := 72) (fun _ => rfl) (e_iadd (p1 := 70) (p2 := 71) (e_iald (p1 := 67) (p2 := 69) (e_gR (k0 := 11) (p1 := 64) cf_8 (e_aload_n (k0 := 0) d_Givings_bestMove_63 rfl rfl) (by decide) tw_454 d_Givings_bestMove_64) (e_iload (k0 := 5) d_Givings_bestMove_67 rfl) d_Givings_bestMove_69) (e_iconst d_Givings_bestMove_70 (by decide)) d_Givings_bestMove_71) a_nil)))) (k_virt ok_Givings_gain mf_Givings_gain ⟨tw_1107, tw_35⟩ rfl tw_1105 d_Givings_bestMove_72 (by decide) (by decide) (by decide))) (e_iload_n (k0 := 3) d_Givings_bestMove_75 rfl rfl) d_Givings_bestMove_76 rfl)) (s_seq (sl1 := [(0, 1), (1, 1), (2, 1), (3, 1), (4, 1), (5, 1)]) (p1 := 82) (s_set (k0 := 2) (p1 := 81) (e_iload (k0 := 5) d_Givings_bestMove_79 rfl) (t_istore_n d_Givings_bestMove_81 rfl (by decide)) rfl rfl) (s_set (k0 := 3) (p1 := 98) (e_cI (p1 := 95) (a_cons (ι := Value.ref) (k0 := 1) (p1 := 83) (fun _ => rfl) (e_aload_n (k0 := 0) d_Givings_bestMove_82 rfl rfl) (a_cons (ι := Value.int) (k0 := 1) (p1 := 84) (fun _ => rfl) (e_iload_n (k0 := 1) d_Givings_bestMove_83 rfl rfl) (a_cons (ι := Value.int) (k0 := 1) (p1 := 86) (fun _ => rfl) (e_iload (k0 := 5) d_Givings_bestMove_84 rfl) (a_cons (ι := Value.int) (k0 := 1) (p1 := 95) (fun _ => rfl) (e_iadd (p1 := 93) (p2 := 94) (e_iald (p1 := 90) (p2 := 92) (e_gR (k0 := 11) (p1 := 87) cf_8 (e_aload_n (k0 := 0) d_Givings_bestMove_86 rfl rfl) (by decide) tw_454 d_Givings_bestMove_87) (e_iload (k0 := 5) d_Givings_bestMove_90 rfl) d_Givings_bestMove_92) (e_iconst d_Givings_bestMove_93 (by decide)) d_Givings_bestMove_94) a_nil)))) (k_virt ok_Givings_gain mf_Givings_gain ⟨tw_1107, tw_35⟩ rfl tw_1105 d_Givings_bestMove_95 (by decide) (by decide) (by decide))) (t_istore_n d_Givings_bestMove_98 rfl (by decide)) rfl rfl)) s_skip)) rfl) (s_goto (p1 := 102) (s_inc (k0 := 4) d_Givings_bestMove_99 rfl rfl (Nat.le_of_ble_eq_true rfl) rfl) d_Givings_bestMove_102 rfl))) rfl) (s_ret (p1 := 106) (e_iload_n (k0 := 2) d_Givings_bestMove_105 rfl rfl) rfl d_Givings_bestMove_106)))))
/-! BlinkerCross$Givings.moveToBest(I)Z -/
abbrev y_Givings_moveToBest : MethodName := ⟨"BlinkerCross$Givings", "moveToBest", "(I)Z"⟩
abbrev Y_Givings_moveToBest : Yt := (prog_3_method_13_code, 3, "BlinkerCross$Givings", 3, (some .boolean), "moveToBest")
theorem d_Givings_moveToBest_0 : decode prog_3_method_13_code 0 = .ok (.aload_n 0, 1) := by decide +kernel
theorem d_Givings_moveToBest_1 : decode prog_3_method_13_code 1 = .ok (.iload_n 1, 1) := by decide +kernel
theorem d_Givings_moveToBest_2 : decode prog_3_method_13_code 2 = .ok (.invokevirtual 137, 3) := by decide +kernel
theorem d_Givings_moveToBest_5 : decode prog_3_method_13_code 5 = .ok (.istore_n 2, 1) := by decide +kernel
theorem d_Givings_moveToBest_6 : decode prog_3_method_13_code 6 = .ok (.iload_n 2, 1) := by decide +kernel
theorem d_Givings_moveToBest_7 : decode prog_3_method_13_code 7 = .ok (.aload_n 0, 1) := by decide +kernel
theorem d_Givings_moveToBest_8 : decode prog_3_method_13_code 8 = .ok (.getfield 24, 3) := by decide +kernel
theorem d_Givings_moveToBest_11 : decode prog_3_method_13_code 11 = .ok (.iload_n 1, 1) := by decide +kernel
theorem d_Givings_moveToBest_12 : decode prog_3_method_13_code 12 = .ok (.iaload, 1) := by decide +kernel
theorem d_Givings_moveToBest_13 : decode prog_3_method_13_code 13 = .ok (.if_icmp .ne 5, 3) := by decide +kernel
theorem d_Givings_moveToBest_16 : decode prog_3_method_13_code 16 = .ok (.iconst 0, 1) := by decide +kernel
theorem d_Givings_moveToBest_17 : decode prog_3_method_13_code 17 = .ok (.ireturn, 1) := by decide +kernel
theorem d_Givings_moveToBest_18 : decode prog_3_method_13_code 18 = .ok (.aload_n 0, 1) := by decide +kernel
theorem d_Givings_moveToBest_19 : decode prog_3_method_13_code 19 = .ok (.getfield 27, 3) := by decide +kernel
theorem d_Givings_moveToBest_22 : decode prog_3_method_13_code 22 = .ok (.aload_n 0, 1) := by decide +kernel
theorem d_Givings_moveToBest_23 : decode prog_3_method_13_code 23 = .ok (.getfield 24, 3) := by decide +kernel
theorem d_Givings_moveToBest_26 : decode prog_3_method_13_code 26 = .ok (.iload_n 1, 1) := by decide +kernel
theorem d_Givings_moveToBest_27 : decode prog_3_method_13_code 27 = .ok (.iaload, 1) := by decide +kernel
theorem d_Givings_moveToBest_28 : decode prog_3_method_13_code 28 = .ok (.dup2, 1) := by decide +kernel
theorem d_Givings_moveToBest_29 : decode prog_3_method_13_code 29 = .ok (.iaload, 1) := by decide +kernel
theorem d_Givings_moveToBest_30 : decode prog_3_method_13_code 30 = .ok (.iconst 1, 1) := by decide +kernel
theorem d_Givings_moveToBest_31 : decode prog_3_method_13_code 31 = .ok (.isub, 1) := by decide +kernel
theorem d_Givings_moveToBest_32 : decode prog_3_method_13_code 32 = .ok (.iastore, 1) := by decide +kernel
theorem d_Givings_moveToBest_33 : decode prog_3_method_13_code 33 = .ok (.aload_n 0, 1) := by decide +kernel
theorem d_Givings_moveToBest_34 : decode prog_3_method_13_code 34 = .ok (.getfield 27, 3) := by decide +kernel
theorem d_Givings_moveToBest_37 : decode prog_3_method_13_code 37 = .ok (.iload_n 2, 1) := by decide +kernel
theorem d_Givings_moveToBest_38 : decode prog_3_method_13_code 38 = .ok (.dup2, 1) := by decide +kernel
theorem d_Givings_moveToBest_39 : decode prog_3_method_13_code 39 = .ok (.iaload, 1) := by decide +kernel
theorem d_Givings_moveToBest_40 : decode prog_3_method_13_code 40 = .ok (.iconst 1, 1) := by decide +kernel
theorem d_Givings_moveToBest_41 : decode prog_3_method_13_code 41 = .ok (.iadd, 1) := by decide +kernel
theorem d_Givings_moveToBest_42 : decode prog_3_method_13_code 42 = .ok (.iastore, 1) := by decide +kernel
theorem d_Givings_moveToBest_43 : decode prog_3_method_13_code 43 = .ok (.aload_n 0, 1) := by decide +kernel
theorem d_Givings_moveToBest_44 : decode prog_3_method_13_code 44 = .ok (.getfield 24, 3) := by decide +kernel
theorem d_Givings_moveToBest_47 : decode prog_3_method_13_code 47 = .ok (.iload_n 1, 1) := by decide +kernel
theorem d_Givings_moveToBest_48 : decode prog_3_method_13_code 48 = .ok (.iload_n 2, 1) := by decide +kernel
theorem d_Givings_moveToBest_49 : decode prog_3_method_13_code 49 = .ok (.iastore, 1) := by decide +kernel
theorem d_Givings_moveToBest_50 : decode prog_3_method_13_code 50 = .ok (.iconst 1, 1) := by decide +kernel
theorem d_Givings_moveToBest_51 : decode prog_3_method_13_code 51 = .ok (.ireturn, 1) := by decide +kernel
noncomputable def F_Givings_moveToBest : Sm := sSeq (sDecl (asV Value.int (cI (mV 8 D_Givings_bestMove) [asV Value.ref (vR 0), asV Value.int (vI 1)]))) (sSeq (sIf (o2 (fun x y => decide (x = y)) (vI 2) (aI 0 (gR 8 10 (vR 0)) (vI 1))) (sRetZ (kI (ii 0))) (sSkip)) (sSeq (sAop 0 (gR 8 11 (vR 0)) (aI 0 (gR 8 10 (vR 0)) (vI 1)) (fun x y => x - y) (kI (ii 1))) (sSeq (sAop 0 (gR 8 11 (vR 0)) (vI 2) (fun x y => x + y) (kI (ii 1))) (sSeq (sAst 0 (gR 8 10 (vR 0)) (vI 1) (vI 2)) (sRetZ (kI (ii 1)))))))
theorem mf_Givings_moveToBest : Mf y_Givings_moveToBest prog_3_method_13_code 3 (some .boolean) 1 := ⟨tw_1138, tw_130, by decide +kernel⟩
noncomputable def D_Givings_moveToBest : Dn := runS [1, 1] F_Givings_moveToBest
theorem ok_Givings_moveToBest : MOK y_Givings_moveToBest prog_3_method_13_code 3 (some .boolean) 3 0 0 D_Givings_moveToBest := MOK.of (by decide) (by decide) (show SO Y_Givings_moveToBest [(0, 1), (1, 1)] [(0, 1), (1, 1), (2, 1)] 0 52 (([], 0), ([], 0)) F_Givings_moveToBest from
  (s_seq (sl1 := [(0, 1), (1, 1), (2, 1)]) (p1 := 6) (s_decl (p1 := 5) (e_cI (p1 := 2) (a_cons (ι := Value.ref) (k0 := 1) (p1 := 1) (fun _ => rfl) (e_aload_n (k0 := 0) d_Givings_moveToBest_0 rfl rfl) (a_cons (ι := Value.int) (k0 := 1) (p1 := 2) (fun _ => rfl) (e_iload_n (k0 := 1) d_Givings_moveToBest_1 rfl rfl) a_nil)) (k_virt ok_Givings_bestMove mf_Givings_bestMove ⟨tw_1141, tw_39⟩ rfl tw_1139 d_Givings_moveToBest_2 (by decide) (by decide) (by decide))) (t_istore_n d_Givings_moveToBest_5 rfl (by decide)) rfl) (s_seq (sl1 := [(0, 1), (1, 1), (2, 1)]) (p1 := 18) (s_if (pt := 16) (pf := 18) (c_icmp_neF (p1 := 7) (p2 := 13) (tg := 18) (e_iload_n (k0 := 2) d_Givings_moveToBest_6 rfl rfl) (e_iald (p1 := 11) (p2 := 12) (e_gR (k0 := 10) (p1 := 8) cf_8 (e_aload_n (k0 := 0) d_Givings_moveToBest_7 rfl rfl) (by decide) tw_453 d_Givings_moveToBest_8) (e_iload_n (k0 := 1) d_Givings_moveToBest_11 rfl rfl) d_Givings_moveToBest_12) d_Givings_moveToBest_13 rfl) (s_retZ (p1 := 17) (e_iconst d_Givings_moveToBest_16 (by decide)) rfl d_Givings_moveToBest_17) s_skip) (s_seq (sl1 := [(0, 1), (1, 1), (2, 1)]) (p1 := 33) (s_aop (p1 := 22) (p2 := 28) (p3 := 31) (e_gR (k0 := 11) (p1 := 19) cf_8 (e_aload_n (k0 := 0) d_Givings_moveToBest_18 rfl rfl) (by decide) tw_454 d_Givings_moveToBest_19) (e_iald (p1 := 26) (p2 := 27) (e_gR (k0 := 10) (p1 := 23) cf_8 (e_aload_n (k0 := 0) d_Givings_moveToBest_22 rfl rfl) (by decide) tw_453 d_Givings_moveToBest_23) (e_iload_n (k0 := 1) d_Givings_moveToBest_26 rfl rfl) d_Givings_moveToBest_27) d_Givings_moveToBest_28 (ad_i d_Givings_moveToBest_29) (e_iconst d_Givings_moveToBest_30 (by decide)) (op_isub d_Givings_moveToBest_31) (as_i d_Givings_moveToBest_32)) (s_seq (sl1 := [(0, 1), (1, 1), (2, 1)]) (p1 := 43) (s_aop (p1 := 37) (p2 := 38) (p3 := 41) (e_gR (k0 := 11) (p1 := 34) cf_8 (e_aload_n (k0 := 0) d_Givings_moveToBest_33 rfl rfl) (by decide) tw_454 d_Givings_moveToBest_34) (e_iload_n (k0 := 2) d_Givings_moveToBest_37 rfl rfl) d_Givings_moveToBest_38 (ad_i d_Givings_moveToBest_39) (e_iconst d_Givings_moveToBest_40 (by decide)) (op_iadd d_Givings_moveToBest_41) (as_i d_Givings_moveToBest_42)) (s_seq (sl1 := [(0, 1), (1, 1), (2, 1)]) (p1 := 50) (s_ast (p1 := 47) (p2 := 48) (p3 := 49) (e_gR (k0 := 10) (p1 := 44) cf_8 (e_aload_n (k0 := 0) d_Givings_moveToBest_43 rfl rfl) (by decide) tw_453 d_Givings_moveToBest_44) (e_iload_n (k0 := 1) d_Givings_moveToBest_47 rfl rfl) (e_iload_n (k0 := 2) d_Givings_moveToBest_48 rfl rfl) (as_i d_Givings_moveToBest_49)) (s_retZ (p1 := 51) (e_iconst d_Givings_moveToBest_50 (by decide)) rfl d_Givings_moveToBest_51)))))))
/-! BlinkerCross$Givings.roundsToRest()I -/
abbrev y_Givings_roundsToRest : MethodName := ⟨"BlinkerCross$Givings", "roundsToRest", "()I"⟩
abbrev Y_Givings_roundsToRest : Yt := (prog_3_method_3_code, 4, "BlinkerCross$Givings", 5, (some .int), "roundsToRest")
theorem d_Givings_roundsToRest_0 : decode prog_3_method_3_code 0 = .ok (.aload_n 0, 1) := by decide +kernel
theorem d_Givings_roundsToRest_1 : decode prog_3_method_3_code 1 = .ok (.invokevirtual 54, 3) := by decide +kernel
theorem d_Givings_roundsToRest_4 : decode prog_3_method_3_code 4 = .ok (.aload_n 0, 1) := by decide +kernel
theorem d_Givings_roundsToRest_5 : decode prog_3_method_3_code 5 = .ok (.invokevirtual 70, 3) := by decide +kernel
theorem d_Givings_roundsToRest_8 : decode prog_3_method_3_code 8 = .ok (.iconst 0, 1) := by decide +kernel
theorem d_Givings_roundsToRest_9 : decode prog_3_method_3_code 9 = .ok (.istore_n 1, 1) := by decide +kernel
theorem d_Givings_roundsToRest_10 : decode prog_3_method_3_code 10 = .ok (.iload_n 1, 1) := by decide +kernel
theorem d_Givings_roundsToRest_11 : decode prog_3_method_3_code 11 = .ok (.aload_n 0, 1) := by decide +kernel
theorem d_Givings_roundsToRest_12 : decode prog_3_method_3_code 12 = .ok (.getfield 37, 3) := by decide +kernel
theorem d_Givings_roundsToRest_15 : decode prog_3_method_3_code 15 = .ok (.getfield 77, 3) := by decide +kernel
theorem d_Givings_roundsToRest_18 : decode prog_3_method_3_code 18 = .ok (.if_icmp .ge 43, 3) := by decide +kernel
theorem d_Givings_roundsToRest_21 : decode prog_3_method_3_code 21 = .ok (.aload_n 0, 1) := by decide +kernel
theorem d_Givings_roundsToRest_22 : decode prog_3_method_3_code 22 = .ok (.getfield 24, 3) := by decide +kernel
theorem d_Givings_roundsToRest_25 : decode prog_3_method_3_code 25 = .ok (.iload_n 1, 1) := by decide +kernel
theorem d_Givings_roundsToRest_26 : decode prog_3_method_3_code 26 = .ok (.iconst 0, 1) := by decide +kernel
theorem d_Givings_roundsToRest_27 : decode prog_3_method_3_code 27 = .ok (.aload_n 0, 1) := by decide +kernel
theorem d_Givings_roundsToRest_28 : decode prog_3_method_3_code 28 = .ok (.getfield 41, 3) := by decide +kernel
theorem d_Givings_roundsToRest_31 : decode prog_3_method_3_code 31 = .ok (.getfield 82, 3) := by decide +kernel
theorem d_Givings_roundsToRest_34 : decode prog_3_method_3_code 34 = .ok (.iload_n 1, 1) := by decide +kernel
theorem d_Givings_roundsToRest_35 : decode prog_3_method_3_code 35 = .ok (.iaload, 1) := by decide +kernel
theorem d_Givings_roundsToRest_36 : decode prog_3_method_3_code 36 = .ok (.invokestatic 85, 3) := by decide +kernel
theorem d_Givings_roundsToRest_39 : decode prog_3_method_3_code 39 = .ok (.iastore, 1) := by decide +kernel
theorem d_Givings_roundsToRest_40 : decode prog_3_method_3_code 40 = .ok (.aload_n 0, 1) := by decide +kernel
theorem d_Givings_roundsToRest_41 : decode prog_3_method_3_code 41 = .ok (.getfield 27, 3) := by decide +kernel
theorem d_Givings_roundsToRest_44 : decode prog_3_method_3_code 44 = .ok (.aload_n 0, 1) := by decide +kernel
theorem d_Givings_roundsToRest_45 : decode prog_3_method_3_code 45 = .ok (.getfield 24, 3) := by decide +kernel
theorem d_Givings_roundsToRest_48 : decode prog_3_method_3_code 48 = .ok (.iload_n 1, 1) := by decide +kernel
theorem d_Givings_roundsToRest_49 : decode prog_3_method_3_code 49 = .ok (.iaload, 1) := by decide +kernel
theorem d_Givings_roundsToRest_50 : decode prog_3_method_3_code 50 = .ok (.dup2, 1) := by decide +kernel
theorem d_Givings_roundsToRest_51 : decode prog_3_method_3_code 51 = .ok (.iaload, 1) := by decide +kernel
theorem d_Givings_roundsToRest_52 : decode prog_3_method_3_code 52 = .ok (.iconst 1, 1) := by decide +kernel
theorem d_Givings_roundsToRest_53 : decode prog_3_method_3_code 53 = .ok (.iadd, 1) := by decide +kernel
theorem d_Givings_roundsToRest_54 : decode prog_3_method_3_code 54 = .ok (.iastore, 1) := by decide +kernel
theorem d_Givings_roundsToRest_55 : decode prog_3_method_3_code 55 = .ok (.iinc 1 1, 3) := by decide +kernel
theorem d_Givings_roundsToRest_58 : decode prog_3_method_3_code 58 = .ok (.goto (-48), 3) := by decide +kernel
theorem d_Givings_roundsToRest_61 : decode prog_3_method_3_code 61 = .ok (.iconst 0, 1) := by decide +kernel
theorem d_Givings_roundsToRest_62 : decode prog_3_method_3_code 62 = .ok (.istore_n 1, 1) := by decide +kernel
theorem d_Givings_roundsToRest_63 : decode prog_3_method_3_code 63 = .ok (.iload_n 1, 1) := by decide +kernel
theorem d_Givings_roundsToRest_64 : decode prog_3_method_3_code 64 = .ok (.bipush 20, 2) := by decide +kernel
theorem d_Givings_roundsToRest_66 : decode prog_3_method_3_code 66 = .ok (.if_icmp .gt 44, 3) := by decide +kernel
theorem d_Givings_roundsToRest_69 : decode prog_3_method_3_code 69 = .ok (.iconst 0, 1) := by decide +kernel
theorem d_Givings_roundsToRest_70 : decode prog_3_method_3_code 70 = .ok (.istore_n 2, 1) := by decide +kernel
theorem d_Givings_roundsToRest_71 : decode prog_3_method_3_code 71 = .ok (.iconst 0, 1) := by decide +kernel
theorem d_Givings_roundsToRest_72 : decode prog_3_method_3_code 72 = .ok (.istore_n 3, 1) := by decide +kernel
theorem d_Givings_roundsToRest_73 : decode prog_3_method_3_code 73 = .ok (.iload_n 3, 1) := by decide +kernel
theorem d_Givings_roundsToRest_74 : decode prog_3_method_3_code 74 = .ok (.aload_n 0, 1) := by decide +kernel
theorem d_Givings_roundsToRest_75 : decode prog_3_method_3_code 75 = .ok (.getfield 37, 3) := by decide +kernel
theorem d_Givings_roundsToRest_78 : decode prog_3_method_3_code 78 = .ok (.getfield 77, 3) := by decide +kernel
theorem d_Givings_roundsToRest_81 : decode prog_3_method_3_code 81 = .ok (.if_icmp .ge 17, 3) := by decide +kernel
theorem d_Givings_roundsToRest_84 : decode prog_3_method_3_code 84 = .ok (.iload_n 2, 1) := by decide +kernel
theorem d_Givings_roundsToRest_85 : decode prog_3_method_3_code 85 = .ok (.aload_n 0, 1) := by decide +kernel
theorem d_Givings_roundsToRest_86 : decode prog_3_method_3_code 86 = .ok (.iload_n 3, 1) := by decide +kernel
theorem d_Givings_roundsToRest_87 : decode prog_3_method_3_code 87 = .ok (.invokevirtual 91, 3) := by decide +kernel
theorem d_Givings_roundsToRest_90 : decode prog_3_method_3_code 90 = .ok (.ior, 1) := by decide +kernel
theorem d_Givings_roundsToRest_91 : decode prog_3_method_3_code 91 = .ok (.istore_n 2, 1) := by decide +kernel
theorem d_Givings_roundsToRest_92 : decode prog_3_method_3_code 92 = .ok (.iinc 3 1, 3) := by decide +kernel
theorem d_Givings_roundsToRest_95 : decode prog_3_method_3_code 95 = .ok (.goto (-22), 3) := by decide +kernel
theorem d_Givings_roundsToRest_98 : decode prog_3_method_3_code 98 = .ok (.iload_n 2, 1) := by decide +kernel
theorem d_Givings_roundsToRest_99 : decode prog_3_method_3_code 99 = .ok (.ifCond .ne 5, 3) := by decide +kernel
theorem d_Givings_roundsToRest_102 : decode prog_3_method_3_code 102 = .ok (.iload_n 1, 1) := by decide +kernel
theorem d_Givings_roundsToRest_103 : decode prog_3_method_3_code 103 = .ok (.ireturn, 1) := by decide +kernel
theorem d_Givings_roundsToRest_104 : decode prog_3_method_3_code 104 = .ok (.iinc 1 1, 3) := by decide +kernel
theorem d_Givings_roundsToRest_107 : decode prog_3_method_3_code 107 = .ok (.goto (-44), 3) := by decide +kernel
theorem d_Givings_roundsToRest_110 : decode prog_3_method_3_code 110 = .ok (.bipush (-2), 2) := by decide +kernel
theorem d_Givings_roundsToRest_112 : decode prog_3_method_3_code 112 = .ok (.ireturn, 1) := by decide +kernel
noncomputable def Lc_Givings_roundsToRest_1 : Xp Bool := o2 (fun x y => decide (x < y)) (vI 1) (gI 2 1 (gR 8 5 (vR 0)))
noncomputable def Lb_Givings_roundsToRest_1 : Sm := sSeq (sAst 0 (gR 8 10 (vR 0)) (vI 1) (o2 (fun x y => if x < y then y else x) (kI (ii 0)) (aI 0 (gR 4 1 (gR 8 6 (vR 0))) (vI 1)))) (sAop 0 (gR 8 11 (vR 0)) (aI 0 (gR 8 10 (vR 0)) (vI 1)) (fun x y => x + y) (kI (ii 1)))
noncomputable def Lu_Givings_roundsToRest_1 : Sm := sInc 1 (ii 1)
noncomputable def Lc_Givings_roundsToRest_2 : Xp Bool := o2 (fun x y => decide (x < y)) (vI 3) (gI 2 1 (gR 8 5 (vR 0)))
noncomputable def Lb_Givings_roundsToRest_2 : Sm := sSet 2 (asV Value.int (o2 (fun x y => x ||| y) (vI 2) (cI (mV 8 D_Givings_moveToBest) [asV Value.ref (vR 0), asV Value.int (vI 3)])))
noncomputable def Lu_Givings_roundsToRest_2 : Sm := sInc 3 (ii 1)
noncomputable def Lc_Givings_roundsToRest_3 : Xp Bool := o2 (fun x y => decide (x ≤ y)) (vI 1) (kI (ii 20))
noncomputable def Lb_Givings_roundsToRest_3 : Sm := sBlk 2 (sSeq (sDecl (asV Value.int (kI (ii 0)))) (sSeq (sBlk 3 (sSeq (sDecl (asV Value.int (kI (ii 0)))) (sWh (Lc_Givings_roundsToRest_2) (Lb_Givings_roundsToRest_2) Lu_Givings_roundsToRest_2))) (sIf (cNot (o1 (fun x => decide (x ≠ 0)) (vI 2))) (sRet (asV Value.int (vI 1))) (sSkip))))
noncomputable def Lu_Givings_roundsToRest_3 : Sm := sInc 1 (ii 1)
noncomputable def F_Givings_roundsToRest : Sm := sSeq (sCall (mV 8 D_Givings_fillGains) [asV Value.ref (vR 0)]) (sSeq (sCall (mV 8 D_Givings_clearTakers) [asV Value.ref (vR 0)]) (sSeq (sBlk 1 (sSeq (sDecl (asV Value.int (kI (ii 0)))) (sWh (Lc_Givings_roundsToRest_1) (Lb_Givings_roundsToRest_1) Lu_Givings_roundsToRest_1))) (sSeq (sBlk 1 (sSeq (sDecl (asV Value.int (kI (ii 0)))) (sWh (Lc_Givings_roundsToRest_3) (Lb_Givings_roundsToRest_3) Lu_Givings_roundsToRest_3))) (sRet (asV Value.int (kI (ii (-2))))))))
theorem mf_Givings_roundsToRest : Mf y_Givings_roundsToRest prog_3_method_3_code 4 (some .int) 0 := ⟨tw_1133, tw_130, by decide +kernel⟩
noncomputable def D_Givings_roundsToRest : Dn := runS [1] F_Givings_roundsToRest
theorem ok_Givings_roundsToRest : MOK y_Givings_roundsToRest prog_3_method_3_code 4 (some .int) 5 0 0 D_Givings_roundsToRest := MOK.of (by decide) (by decide) (show SO Y_Givings_roundsToRest [(0, 1)] [(0, 1)] 0 113 (([], 0), ([], 0)) F_Givings_roundsToRest from
  (s_seq (sl1 := [(0, 1)]) (p1 := 4) (s_call (p1 := 1) (a_cons (ι := Value.ref) (k0 := 1) (p1 := 1) (fun _ => rfl) (e_aload_n (k0 := 0) d_Givings_roundsToRest_0 rfl rfl) a_nil) (k_virt ok_Givings_fillGains mf_Givings_fillGains ⟨tw_1086, tw_31⟩ rfl tw_1084 d_Givings_roundsToRest_1 (by decide) (by decide) (by decide))) (s_seq (sl1 := [(0, 1)]) (p1 := 8) (s_call (p1 := 5) (a_cons (ι := Value.ref) (k0 := 1) (p1 := 5) (fun _ => rfl) (e_aload_n (k0 := 0) d_Givings_roundsToRest_4 rfl rfl) a_nil) (k_virt ok_Givings_clearTakers mf_Givings_clearTakers ⟨tw_1095, tw_32⟩ rfl tw_1093 d_Givings_roundsToRest_5 (by decide) (by decide) (by decide))) (s_seq (sl1 := [(0, 1)]) (p1 := 61) (s_blk (sl1 := [(0, 1), (1, 1)]) (s_seq (sl1 := [(0, 1), (1, 1)]) (p1 := 10) (s_decl (p1 := 9) (e_iconst d_Givings_roundsToRest_8 (by decide)) (t_istore_n d_Givings_roundsToRest_9 rfl (by decide)) rfl) (s_for (pt := 21) (pu := 55) (pf := 61) (pg := 0) (c_icmp_geF (p1 := 11) (p2 := 18) (tg := 61) (e_iload_n (k0 := 1) d_Givings_roundsToRest_10 rfl rfl) (e_gI (k0 := 1) (p1 := 15) cf_2 (e_gR (k0 := 5) (p1 := 12) cf_8 (e_aload_n (k0 := 0) d_Givings_roundsToRest_11 rfl rfl) (by decide) tw_448 d_Givings_roundsToRest_12) (by decide) tw_207 d_Givings_roundsToRest_15) d_Givings_roundsToRest_18 rfl) (s_seq (sl1 := [(0, 1), (1, 1)]) (p1 := 40) (s_ast (p1 := 25) (p2 := 26) (p3 := 39) (e_gR (k0 := 10) (p1 := 22) cf_8 (e_aload_n (k0 := 0) d_Givings_roundsToRest_21 rfl rfl) (by decide) tw_453 d_Givings_roundsToRest_22) (e_iload_n (k0 := 1) d_Givings_roundsToRest_25 rfl rfl) (e_max (p1 := 27) (p2 := 36) (e_iconst d_Givings_roundsToRest_26 (by decide)) (e_iald (p1 := 34) (p2 := 35) (e_gR (k0 := 1) (p1 := 31) cf_4 (e_gR (k0 := 6) (p1 := 28) cf_8 (e_aload_n (k0 := 0) d_Givings_roundsToRest_27 rfl rfl) (by decide) tw_449 d_Givings_roundsToRest_28) (by decide) tw_324 d_Givings_roundsToRest_31) (e_iload_n (k0 := 1) d_Givings_roundsToRest_34 rfl rfl) d_Givings_roundsToRest_35) ⟨tw_1134, tw_720, tw_139, tw_721⟩ d_Givings_roundsToRest_36 (by decide) (by decide)) (as_i d_Givings_roundsToRest_39)) (s_aop (p1 := 44) (p2 := 50) (p3 := 53) (e_gR (k0 := 11) (p1 := 41) cf_8 (e_aload_n (k0 := 0) d_Givings_roundsToRest_40 rfl rfl) (by decide) tw_454 d_Givings_roundsToRest_41) (e_iald (p1 := 48) (p2 := 49) (e_gR (k0 := 10) (p1 := 45) cf_8 (e_aload_n (k0 := 0) d_Givings_roundsToRest_44 rfl rfl) (by decide) tw_453 d_Givings_roundsToRest_45) (e_iload_n (k0 := 1) d_Givings_roundsToRest_48 rfl rfl) d_Givings_roundsToRest_49) d_Givings_roundsToRest_50 (ad_i d_Givings_roundsToRest_51) (e_iconst d_Givings_roundsToRest_52 (by decide)) (op_iadd d_Givings_roundsToRest_53) (as_i d_Givings_roundsToRest_54))) (s_goto (p1 := 58) (s_inc (k0 := 1) d_Givings_roundsToRest_55 rfl rfl (Nat.le_of_ble_eq_true rfl) rfl) d_Givings_roundsToRest_58 rfl))) rfl) (s_seq (sl1 := [(0, 1)]) (p1 := 110) (s_blk (sl1 := [(0, 1), (1, 1)]) (s_seq (sl1 := [(0, 1), (1, 1)]) (p1 := 63) (s_decl (p1 := 62) (e_iconst d_Givings_roundsToRest_61 (by decide)) (t_istore_n d_Givings_roundsToRest_62 rfl (by decide)) rfl) (s_for (pt := 69) (pu := 104) (pf := 110) (pg := 0) (c_icmp_gtF (p1 := 64) (p2 := 66) (tg := 110) (e_iload_n (k0 := 1) d_Givings_roundsToRest_63 rfl rfl) (e_bipush d_Givings_roundsToRest_64 (by decide)) d_Givings_roundsToRest_66 rfl) (s_blk (sl1 := [(0, 1), (1, 1), (2, 1)]) (s_seq (sl1 := [(0, 1), (1, 1), (2, 1)]) (p1 := 71) (s_decl (p1 := 70) (e_iconst d_Givings_roundsToRest_69 (by decide)) (t_istore_n d_Givings_roundsToRest_70 rfl (by decide)) rfl) (s_seq (sl1 := [(0, 1), (1, 1), (2, 1)]) (p1 := 98) (s_blk (sl1 := [(0, 1), (1, 1), (2, 1), (3, 1)]) (s_seq (sl1 := [(0, 1), (1, 1), (2, 1), (3, 1)]) (p1 := 73) (s_decl (p1 := 72) (e_iconst d_Givings_roundsToRest_71 (by decide)) (t_istore_n d_Givings_roundsToRest_72 rfl (by decide)) rfl) (s_for (pt := 84) (pu := 92) (pf := 98) (pg := 0) (c_icmp_geF (p1 := 74) (p2 := 81) (tg := 98) (e_iload_n (k0 := 3) d_Givings_roundsToRest_73 rfl rfl) (e_gI (k0 := 1) (p1 := 78) cf_2 (e_gR (k0 := 5) (p1 := 75) cf_8 (e_aload_n (k0 := 0) d_Givings_roundsToRest_74 rfl rfl) (by decide) tw_448 d_Givings_roundsToRest_75) (by decide) tw_207 d_Givings_roundsToRest_78) d_Givings_roundsToRest_81 rfl) (s_set (k0 := 2) (p1 := 91) (e_ior (p1 := 85) (p2 := 90) (e_iload_n (k0 := 2) d_Givings_roundsToRest_84 rfl rfl) (e_cI (p1 := 87) (a_cons (ι := Value.ref) (k0 := 1) (p1 := 86) (fun _ => rfl) (e_aload_n (k0 := 0) d_Givings_roundsToRest_85 rfl rfl) (a_cons (ι := Value.int) (k0 := 1) (p1 := 87) (fun _ => rfl) (e_iload_n (k0 := 3) d_Givings_roundsToRest_86 rfl rfl) a_nil)) (k_virt ok_Givings_moveToBest mf_Givings_moveToBest ⟨tw_1137, tw_38⟩ rfl tw_1135 d_Givings_roundsToRest_87 (by decide) (by decide) (by decide))) d_Givings_roundsToRest_90) (t_istore_n d_Givings_roundsToRest_91 rfl (by decide)) rfl rfl) (s_goto (p1 := 95) (s_inc (k0 := 3) d_Givings_roundsToRest_92 rfl rfl (Nat.le_of_ble_eq_true rfl) rfl) d_Givings_roundsToRest_95 rfl))) rfl) (s_if (pt := 102) (pf := 104) (c_not (c_if_neT (p1 := 99) (tg := 104) (e_iload_n (k0 := 2) d_Givings_roundsToRest_98 rfl rfl) d_Givings_roundsToRest_99 rfl)) (s_ret (p1 := 103) (e_iload_n (k0 := 1) d_Givings_roundsToRest_102 rfl rfl) rfl d_Givings_roundsToRest_103) s_skip))) rfl) (s_goto (p1 := 107) (s_inc (k0 := 1) d_Givings_roundsToRest_104 rfl rfl (Nat.le_of_ble_eq_true rfl) rfl) d_Givings_roundsToRest_107 rfl))) rfl) (s_ret (p1 := 112) (e_bipush d_Givings_roundsToRest_110 (by decide)) rfl d_Givings_roundsToRest_112))))))
/-! BlinkerCross$Givings.gainWithout(I)I -/
abbrev y_Givings_gainWithout : MethodName := ⟨"BlinkerCross$Givings", "gainWithout", "(I)I"⟩
abbrev Y_Givings_gainWithout : Yt := (prog_3_method_14_code, 4, "BlinkerCross$Givings", 2, (some .int), "gainWithout")
theorem d_Givings_gainWithout_0 : decode prog_3_method_14_code 0 = .ok (.aload_n 0, 1) := by decide +kernel
theorem d_Givings_gainWithout_1 : decode prog_3_method_14_code 1 = .ok (.invokevirtual 70, 3) := by decide +kernel
theorem d_Givings_gainWithout_4 : decode prog_3_method_14_code 4 = .ok (.iconst 0, 1) := by decide +kernel
theorem d_Givings_gainWithout_5 : decode prog_3_method_14_code 5 = .ok (.istore_n 2, 1) := by decide +kernel
theorem d_Givings_gainWithout_6 : decode prog_3_method_14_code 6 = .ok (.iload_n 2, 1) := by decide +kernel
theorem d_Givings_gainWithout_7 : decode prog_3_method_14_code 7 = .ok (.aload_n 0, 1) := by decide +kernel
theorem d_Givings_gainWithout_8 : decode prog_3_method_14_code 8 = .ok (.getfield 37, 3) := by decide +kernel
theorem d_Givings_gainWithout_11 : decode prog_3_method_14_code 11 = .ok (.getfield 77, 3) := by decide +kernel
theorem d_Givings_gainWithout_14 : decode prog_3_method_14_code 14 = .ok (.if_icmp .ge 59, 3) := by decide +kernel
theorem d_Givings_gainWithout_17 : decode prog_3_method_14_code 17 = .ok (.aload_n 0, 1) := by decide +kernel
theorem d_Givings_gainWithout_18 : decode prog_3_method_14_code 18 = .ok (.getfield 24, 3) := by decide +kernel
theorem d_Givings_gainWithout_21 : decode prog_3_method_14_code 21 = .ok (.iload_n 2, 1) := by decide +kernel
theorem d_Givings_gainWithout_22 : decode prog_3_method_14_code 22 = .ok (.aload_n 0, 1) := by decide +kernel
theorem d_Givings_gainWithout_23 : decode prog_3_method_14_code 23 = .ok (.getfield 41, 3) := by decide +kernel
theorem d_Givings_gainWithout_26 : decode prog_3_method_14_code 26 = .ok (.iload_n 2, 1) := by decide +kernel
theorem d_Givings_gainWithout_27 : decode prog_3_method_14_code 27 = .ok (.aload_n 0, 1) := by decide +kernel
theorem d_Givings_gainWithout_28 : decode prog_3_method_14_code 28 = .ok (.getfield 41, 3) := by decide +kernel
theorem d_Givings_gainWithout_31 : decode prog_3_method_14_code 31 = .ok (.getfield 140, 3) := by decide +kernel
theorem d_Givings_gainWithout_34 : decode prog_3_method_14_code 34 = .ok (.iconst 5, 1) := by decide +kernel
theorem d_Givings_gainWithout_35 : decode prog_3_method_14_code 35 = .ok (.iload_n 2, 1) := by decide +kernel
theorem d_Givings_gainWithout_36 : decode prog_3_method_14_code 36 = .ok (.iadd, 1) := by decide +kernel
theorem d_Givings_gainWithout_37 : decode prog_3_method_14_code 37 = .ok (.iaload, 1) := by decide +kernel
theorem d_Givings_gainWithout_38 : decode prog_3_method_14_code 38 = .ok (.iload_n 1, 1) := by decide +kernel
theorem d_Givings_gainWithout_39 : decode prog_3_method_14_code 39 = .ok (.invokevirtual 143, 3) := by decide +kernel
theorem d_Givings_gainWithout_42 : decode prog_3_method_14_code 42 = .ok (.iastore, 1) := by decide +kernel
theorem d_Givings_gainWithout_43 : decode prog_3_method_14_code 43 = .ok (.aload_n 0, 1) := by decide +kernel
theorem d_Givings_gainWithout_44 : decode prog_3_method_14_code 44 = .ok (.getfield 24, 3) := by decide +kernel
theorem d_Givings_gainWithout_47 : decode prog_3_method_14_code 47 = .ok (.iload_n 2, 1) := by decide +kernel
theorem d_Givings_gainWithout_48 : decode prog_3_method_14_code 48 = .ok (.iaload, 1) := by decide +kernel
theorem d_Givings_gainWithout_49 : decode prog_3_method_14_code 49 = .ok (.ifCond .lt 18, 3) := by decide +kernel
theorem d_Givings_gainWithout_52 : decode prog_3_method_14_code 52 = .ok (.aload_n 0, 1) := by decide +kernel
theorem d_Givings_gainWithout_53 : decode prog_3_method_14_code 53 = .ok (.getfield 27, 3) := by decide +kernel
theorem d_Givings_gainWithout_56 : decode prog_3_method_14_code 56 = .ok (.aload_n 0, 1) := by decide +kernel
theorem d_Givings_gainWithout_57 : decode prog_3_method_14_code 57 = .ok (.getfield 24, 3) := by decide +kernel
theorem d_Givings_gainWithout_60 : decode prog_3_method_14_code 60 = .ok (.iload_n 2, 1) := by decide +kernel
theorem d_Givings_gainWithout_61 : decode prog_3_method_14_code 61 = .ok (.iaload, 1) := by decide +kernel
theorem d_Givings_gainWithout_62 : decode prog_3_method_14_code 62 = .ok (.dup2, 1) := by decide +kernel
theorem d_Givings_gainWithout_63 : decode prog_3_method_14_code 63 = .ok (.iaload, 1) := by decide +kernel
theorem d_Givings_gainWithout_64 : decode prog_3_method_14_code 64 = .ok (.iconst 1, 1) := by decide +kernel
theorem d_Givings_gainWithout_65 : decode prog_3_method_14_code 65 = .ok (.iadd, 1) := by decide +kernel
theorem d_Givings_gainWithout_66 : decode prog_3_method_14_code 66 = .ok (.iastore, 1) := by decide +kernel
theorem d_Givings_gainWithout_67 : decode prog_3_method_14_code 67 = .ok (.iinc 2 1, 3) := by decide +kernel
theorem d_Givings_gainWithout_70 : decode prog_3_method_14_code 70 = .ok (.goto (-64), 3) := by decide +kernel
theorem d_Givings_gainWithout_73 : decode prog_3_method_14_code 73 = .ok (.iconst 0, 1) := by decide +kernel
theorem d_Givings_gainWithout_74 : decode prog_3_method_14_code 74 = .ok (.istore_n 2, 1) := by decide +kernel
theorem d_Givings_gainWithout_75 : decode prog_3_method_14_code 75 = .ok (.iconst 0, 1) := by decide +kernel
theorem d_Givings_gainWithout_76 : decode prog_3_method_14_code 76 = .ok (.istore_n 3, 1) := by decide +kernel
theorem d_Givings_gainWithout_77 : decode prog_3_method_14_code 77 = .ok (.iload_n 3, 1) := by decide +kernel
theorem d_Givings_gainWithout_78 : decode prog_3_method_14_code 78 = .ok (.aload_n 0, 1) := by decide +kernel
theorem d_Givings_gainWithout_79 : decode prog_3_method_14_code 79 = .ok (.getfield 37, 3) := by decide +kernel
theorem d_Givings_gainWithout_82 : decode prog_3_method_14_code 82 = .ok (.getfield 77, 3) := by decide +kernel
theorem d_Givings_gainWithout_85 : decode prog_3_method_14_code 85 = .ok (.if_icmp .ge 47, 3) := by decide +kernel
theorem d_Givings_gainWithout_88 : decode prog_3_method_14_code 88 = .ok (.iload_n 2, 1) := by decide +kernel
theorem d_Givings_gainWithout_89 : decode prog_3_method_14_code 89 = .ok (.aload_n 0, 1) := by decide +kernel
theorem d_Givings_gainWithout_90 : decode prog_3_method_14_code 90 = .ok (.getfield 24, 3) := by decide +kernel
theorem d_Givings_gainWithout_93 : decode prog_3_method_14_code 93 = .ok (.iload_n 3, 1) := by decide +kernel
theorem d_Givings_gainWithout_94 : decode prog_3_method_14_code 94 = .ok (.iaload, 1) := by decide +kernel
theorem d_Givings_gainWithout_95 : decode prog_3_method_14_code 95 = .ok (.ifCond .lt 28, 3) := by decide +kernel
theorem d_Givings_gainWithout_98 : decode prog_3_method_14_code 98 = .ok (.aload_n 0, 1) := by decide +kernel
theorem d_Givings_gainWithout_99 : decode prog_3_method_14_code 99 = .ok (.iload_n 3, 1) := by decide +kernel
theorem d_Givings_gainWithout_100 : decode prog_3_method_14_code 100 = .ok (.aload_n 0, 1) := by decide +kernel
theorem d_Givings_gainWithout_101 : decode prog_3_method_14_code 101 = .ok (.getfield 24, 3) := by decide +kernel
theorem d_Givings_gainWithout_104 : decode prog_3_method_14_code 104 = .ok (.iload_n 3, 1) := by decide +kernel
theorem d_Givings_gainWithout_105 : decode prog_3_method_14_code 105 = .ok (.iaload, 1) := by decide +kernel
theorem d_Givings_gainWithout_106 : decode prog_3_method_14_code 106 = .ok (.aload_n 0, 1) := by decide +kernel
theorem d_Givings_gainWithout_107 : decode prog_3_method_14_code 107 = .ok (.getfield 27, 3) := by decide +kernel
theorem d_Givings_gainWithout_110 : decode prog_3_method_14_code 110 = .ok (.aload_n 0, 1) := by decide +kernel
theorem d_Givings_gainWithout_111 : decode prog_3_method_14_code 111 = .ok (.getfield 24, 3) := by decide +kernel
theorem d_Givings_gainWithout_114 : decode prog_3_method_14_code 114 = .ok (.iload_n 3, 1) := by decide +kernel
theorem d_Givings_gainWithout_115 : decode prog_3_method_14_code 115 = .ok (.iaload, 1) := by decide +kernel
theorem d_Givings_gainWithout_116 : decode prog_3_method_14_code 116 = .ok (.iaload, 1) := by decide +kernel
theorem d_Givings_gainWithout_117 : decode prog_3_method_14_code 117 = .ok (.invokevirtual 114, 3) := by decide +kernel
theorem d_Givings_gainWithout_120 : decode prog_3_method_14_code 120 = .ok (.goto 4, 3) := by decide +kernel
theorem d_Givings_gainWithout_123 : decode prog_3_method_14_code 123 = .ok (.iconst 0, 1) := by decide +kernel
theorem d_Givings_gainWithout_124 : decode prog_3_method_14_code 124 = .ok (.iadd, 1) := by decide +kernel
theorem d_Givings_gainWithout_125 : decode prog_3_method_14_code 125 = .ok (.istore_n 2, 1) := by decide +kernel
theorem d_Givings_gainWithout_126 : decode prog_3_method_14_code 126 = .ok (.iinc 3 1, 3) := by decide +kernel
theorem d_Givings_gainWithout_129 : decode prog_3_method_14_code 129 = .ok (.goto (-52), 3) := by decide +kernel
theorem d_Givings_gainWithout_132 : decode prog_3_method_14_code 132 = .ok (.iload_n 2, 1) := by decide +kernel
theorem d_Givings_gainWithout_133 : decode prog_3_method_14_code 133 = .ok (.ireturn, 1) := by decide +kernel
noncomputable def Lc_Givings_gainWithout_1 : Xp Bool := o2 (fun x y => decide (x < y)) (vI 2) (gI 2 1 (gR 8 5 (vR 0)))
noncomputable def Lb_Givings_gainWithout_1 : Sm := sSeq (sAst 0 (gR 8 10 (vR 0)) (vI 2) (cI (mV 4 D_Scene_choiceWith) [asV Value.ref (gR 8 6 (vR 0)), asV Value.int (vI 2), asV Value.int (aI 0 (gR 4 0 (gR 8 6 (vR 0))) (o2 (fun x y => x + y) (kI (ii 5)) (vI 2))), asV Value.int (vI 1)])) (sIf (o1 (fun x => decide (x ≥ 0)) (aI 0 (gR 8 10 (vR 0)) (vI 2))) (sAop 0 (gR 8 11 (vR 0)) (aI 0 (gR 8 10 (vR 0)) (vI 2)) (fun x y => x + y) (kI (ii 1))) (sSkip))
noncomputable def Lu_Givings_gainWithout_1 : Sm := sInc 2 (ii 1)
noncomputable def Lc_Givings_gainWithout_2 : Xp Bool := o2 (fun x y => decide (x < y)) (vI 3) (gI 2 1 (gR 8 5 (vR 0)))
noncomputable def Lb_Givings_gainWithout_2 : Sm := sSet 2 (asV Value.int (o2 (fun x y => x + y) (vI 2) (iX (o1 (fun x => decide (x ≥ 0)) (aI 0 (gR 8 10 (vR 0)) (vI 3))) (cI (mV 8 D_Givings_gain) [asV Value.ref (vR 0), asV Value.int (vI 3), asV Value.int (aI 0 (gR 8 10 (vR 0)) (vI 3)), asV Value.int (aI 0 (gR 8 11 (vR 0)) (aI 0 (gR 8 10 (vR 0)) (vI 3)))]) (kI (ii 0)))))
noncomputable def Lu_Givings_gainWithout_2 : Sm := sInc 3 (ii 1)
noncomputable def F_Givings_gainWithout : Sm := sSeq (sCall (mV 8 D_Givings_clearTakers) [asV Value.ref (vR 0)]) (sSeq (sBlk 2 (sSeq (sDecl (asV Value.int (kI (ii 0)))) (sWh (Lc_Givings_gainWithout_1) (Lb_Givings_gainWithout_1) Lu_Givings_gainWithout_1))) (sSeq (sDecl (asV Value.int (kI (ii 0)))) (sSeq (sBlk 3 (sSeq (sDecl (asV Value.int (kI (ii 0)))) (sWh (Lc_Givings_gainWithout_2) (Lb_Givings_gainWithout_2) Lu_Givings_gainWithout_2))) (sRet (asV Value.int (vI 2))))))
theorem mf_Givings_gainWithout : Mf y_Givings_gainWithout prog_3_method_14_code 4 (some .int) 1 := ⟨tw_1182, tw_130, by decide +kernel⟩
noncomputable def D_Givings_gainWithout : Dn := runS [1, 1] F_Givings_gainWithout
theorem ok_Givings_gainWithout : MOK y_Givings_gainWithout prog_3_method_14_code 4 (some .int) 2 0 0 D_Givings_gainWithout := MOK.of (by decide) (by decide) (show SO Y_Givings_gainWithout [(0, 1), (1, 1)] [(0, 1), (1, 1), (2, 1)] 0 134 (([], 0), ([], 0)) F_Givings_gainWithout from
  (s_seq (sl1 := [(0, 1), (1, 1)]) (p1 := 4) (s_call (p1 := 1) (a_cons (ι := Value.ref) (k0 := 1) (p1 := 1) (fun _ => rfl) (e_aload_n (k0 := 0) d_Givings_gainWithout_0 rfl rfl) a_nil) (k_virt ok_Givings_clearTakers mf_Givings_clearTakers ⟨tw_1095, tw_32⟩ rfl tw_1093 d_Givings_gainWithout_1 (by decide) (by decide) (by decide))) (s_seq (sl1 := [(0, 1), (1, 1)]) (p1 := 73) (s_blk (sl1 := [(0, 1), (1, 1), (2, 1)]) (s_seq (sl1 := [(0, 1), (1, 1), (2, 1)]) (p1 := 6) (s_decl (p1 := 5) (e_iconst d_Givings_gainWithout_4 (by decide)) (t_istore_n d_Givings_gainWithout_5 rfl (by decide)) rfl) (s_for (pt := 17) (pu := 67) (pf := 73) (pg := 0) (c_icmp_geF (p1 := 7) (p2 := 14) (tg := 73) (e_iload_n (k0 := 2) d_Givings_gainWithout_6 rfl rfl) (e_gI (k0 := 1) (p1 := 11) cf_2 (e_gR (k0 := 5) (p1 := 8) cf_8 (e_aload_n (k0 := 0) d_Givings_gainWithout_7 rfl rfl) (by decide) tw_448 d_Givings_gainWithout_8) (by decide) tw_207 d_Givings_gainWithout_11) d_Givings_gainWithout_14 rfl) (s_seq (sl1 := [(0, 1), (1, 1), (2, 1)]) (p1 := 43) (s_ast (p1 := 21) (p2 := 22) (p3 := 42) (e_gR (k0 := 10) (p1 := 18) cf_8 (e_aload_n (k0 := 0) d_Givings_gainWithout_17 rfl rfl) (by decide) tw_453 d_Givings_gainWithout_18) (e_iload_n (k0 := 2) d_Givings_gainWithout_21 rfl rfl) (e_cI (p1 := 39) (a_cons (ι := Value.ref) (k0 := 1) (p1 := 26) (fun _ => rfl) (e_gR (k0 := 6) (p1 := 23) cf_8 (e_aload_n (k0 := 0) d_Givings_gainWithout_22 rfl rfl) (by decide) tw_449 d_Givings_gainWithout_23) (a_cons (ι := Value.int) (k0 := 1) (p1 := 27) (fun _ => rfl) (e_iload_n (k0 := 2) d_Givings_gainWithout_26 rfl rfl) (a_cons (ι := Value.int) (k0 := 1) (p1 := 38) (fun _ => rfl) (e_iald (p1 := 34) (p2 := 37) (e_gR (k0 := 0) (p1 := 31) cf_4 (e_gR (k0 := 6) (p1 := 28) cf_8 (e_aload_n (k0 := 0) d_Givings_gainWithout_27 rfl rfl) (by decide) tw_449 d_Givings_gainWithout_28) (by decide) tw_321 d_Givings_gainWithout_31) (e_iadd (p1 := 35) (p2 := 36) (e_iconst d_Givings_gainWithout_34 (by decide)) (e_iload_n (k0 := 2) d_Givings_gainWithout_35 rfl rfl) d_Givings_gainWithout_36) d_Givings_gainWithout_37) (a_cons (ι := Value.int) (k0 := 1) (p1 := 39) (fun _ => rfl) (e_iload_n (k0 := 1) d_Givings_gainWithout_38 rfl rfl) a_nil)))) (k_virt ok_Scene_choiceWith mf_Scene_choiceWith ⟨tw_865, tw_866⟩ rfl tw_1183 d_Givings_gainWithout_39 (by decide) (by decide) (by decide))) (as_i d_Givings_gainWithout_42)) (s_if (pt := 52) (pf := 67) (c_if_ltF (p1 := 49) (tg := 67) (e_iald (p1 := 47) (p2 := 48) (e_gR (k0 := 10) (p1 := 44) cf_8 (e_aload_n (k0 := 0) d_Givings_gainWithout_43 rfl rfl) (by decide) tw_453 d_Givings_gainWithout_44) (e_iload_n (k0 := 2) d_Givings_gainWithout_47 rfl rfl) d_Givings_gainWithout_48) d_Givings_gainWithout_49 rfl) (s_aop (p1 := 56) (p2 := 62) (p3 := 65) (e_gR (k0 := 11) (p1 := 53) cf_8 (e_aload_n (k0 := 0) d_Givings_gainWithout_52 rfl rfl) (by decide) tw_454 d_Givings_gainWithout_53) (e_iald (p1 := 60) (p2 := 61) (e_gR (k0 := 10) (p1 := 57) cf_8 (e_aload_n (k0 := 0) d_Givings_gainWithout_56 rfl rfl) (by decide) tw_453 d_Givings_gainWithout_57) (e_iload_n (k0 := 2) d_Givings_gainWithout_60 rfl rfl) d_Givings_gainWithout_61) d_Givings_gainWithout_62 (ad_i d_Givings_gainWithout_63) (e_iconst d_Givings_gainWithout_64 (by decide)) (op_iadd d_Givings_gainWithout_65) (as_i d_Givings_gainWithout_66)) s_skip)) (s_goto (p1 := 70) (s_inc (k0 := 2) d_Givings_gainWithout_67 rfl rfl (Nat.le_of_ble_eq_true rfl) rfl) d_Givings_gainWithout_70 rfl))) rfl) (s_seq (sl1 := [(0, 1), (1, 1), (2, 1)]) (p1 := 75) (s_decl (p1 := 74) (e_iconst d_Givings_gainWithout_73 (by decide)) (t_istore_n d_Givings_gainWithout_74 rfl (by decide)) rfl) (s_seq (sl1 := [(0, 1), (1, 1), (2, 1)]) (p1 := 132) (s_blk (sl1 := [(0, 1), (1, 1), (2, 1), (3, 1)]) (s_seq (sl1 := [(0, 1), (1, 1), (2, 1), (3, 1)]) (p1 := 77) (s_decl (p1 := 76) (e_iconst d_Givings_gainWithout_75 (by decide)) (t_istore_n d_Givings_gainWithout_76 rfl (by decide)) rfl) (s_for (pt := 88) (pu := 126) (pf := 132) (pg := 0) (c_icmp_geF (p1 := 78) (p2 := 85) (tg := 132) (e_iload_n (k0 := 3) d_Givings_gainWithout_77 rfl rfl) (e_gI (k0 := 1) (p1 := 82) cf_2 (e_gR (k0 := 5) (p1 := 79) cf_8 (e_aload_n (k0 := 0) d_Givings_gainWithout_78 rfl rfl) (by decide) tw_448 d_Givings_gainWithout_79) (by decide) tw_207 d_Givings_gainWithout_82) d_Givings_gainWithout_85 rfl) (s_set (k0 := 2) (p1 := 125) (e_iadd (p1 := 89) (p2 := 124) (e_iload_n (k0 := 2) d_Givings_gainWithout_88 rfl rfl) (e_ite (pt := 98) (p1 := 120) (pf := 123) (c_if_ltF (p1 := 95) (tg := 123) (e_iald (p1 := 93) (p2 := 94) (e_gR (k0 := 10) (p1 := 90) cf_8 (e_aload_n (k0 := 0) d_Givings_gainWithout_89 rfl rfl) (by decide) tw_453 d_Givings_gainWithout_90) (e_iload_n (k0 := 3) d_Givings_gainWithout_93 rfl rfl) d_Givings_gainWithout_94) d_Givings_gainWithout_95 rfl) (e_cI (p1 := 117) (a_cons (ι := Value.ref) (k0 := 1) (p1 := 99) (fun _ => rfl) (e_aload_n (k0 := 0) d_Givings_gainWithout_98 rfl rfl) (a_cons (ι := Value.int) (k0 := 1) (p1 := 100) (fun _ => rfl) (e_iload_n (k0 := 3) d_Givings_gainWithout_99 rfl rfl) (a_cons (ι := Value.int) (k0 := 1) (p1 := 106) (fun _ => rfl) (e_iald (p1 := 104) (p2 := 105) (e_gR (k0 := 10) (p1 := 101) cf_8 (e_aload_n (k0 := 0) d_Givings_gainWithout_100 rfl rfl) (by decide) tw_453 d_Givings_gainWithout_101) (e_iload_n (k0 := 3) d_Givings_gainWithout_104 rfl rfl) d_Givings_gainWithout_105) (a_cons (ι := Value.int) (k0 := 1) (p1 := 117) (fun _ => rfl) (e_iald (p1 := 110) (p2 := 116) (e_gR (k0 := 11) (p1 := 107) cf_8 (e_aload_n (k0 := 0) d_Givings_gainWithout_106 rfl rfl) (by decide) tw_454 d_Givings_gainWithout_107) (e_iald (p1 := 114) (p2 := 115) (e_gR (k0 := 10) (p1 := 111) cf_8 (e_aload_n (k0 := 0) d_Givings_gainWithout_110 rfl rfl) (by decide) tw_453 d_Givings_gainWithout_111) (e_iload_n (k0 := 3) d_Givings_gainWithout_114 rfl rfl) d_Givings_gainWithout_115) d_Givings_gainWithout_116) a_nil)))) (k_virt ok_Givings_gain mf_Givings_gain ⟨tw_1107, tw_35⟩ rfl tw_1105 d_Givings_gainWithout_117 (by decide) (by decide) (by decide))) d_Givings_gainWithout_120 rfl (e_iconst d_Givings_gainWithout_123 (by decide))) d_Givings_gainWithout_124) (t_istore_n d_Givings_gainWithout_125 rfl (by decide)) rfl rfl) (s_goto (p1 := 129) (s_inc (k0 := 3) d_Givings_gainWithout_126 rfl rfl (Nat.le_of_ble_eq_true rfl) rfl) d_Givings_gainWithout_129 rfl))) rfl) (s_ret (p1 := 133) (e_iload_n (k0 := 2) d_Givings_gainWithout_132 rfl rfl) rfl d_Givings_gainWithout_133))))))
/-! BlinkerCross$Givings.betterClosed()I -/
abbrev y_Givings_betterClosed : MethodName := ⟨"BlinkerCross$Givings", "betterClosed", "()I"⟩
abbrev Y_Givings_betterClosed : Yt := (prog_3_method_4_code, 4, "BlinkerCross$Givings", 5, (some .int), "betterClosed")
theorem d_Givings_betterClosed_0 : decode prog_3_method_4_code 0 = .ok (.aload_n 0, 1) := by decide +kernel
theorem d_Givings_betterClosed_1 : decode prog_3_method_4_code 1 = .ok (.invokevirtual 54, 3) := by decide +kernel
theorem d_Givings_betterClosed_4 : decode prog_3_method_4_code 4 = .ok (.aload_n 0, 1) := by decide +kernel
theorem d_Givings_betterClosed_5 : decode prog_3_method_4_code 5 = .ok (.iconst (-1), 1) := by decide +kernel
theorem d_Givings_betterClosed_6 : decode prog_3_method_4_code 6 = .ok (.invokevirtual 95, 3) := by decide +kernel
theorem d_Givings_betterClosed_9 : decode prog_3_method_4_code 9 = .ok (.istore_n 1, 1) := by decide +kernel
theorem d_Givings_betterClosed_10 : decode prog_3_method_4_code 10 = .ok (.iconst 0, 1) := by decide +kernel
theorem d_Givings_betterClosed_11 : decode prog_3_method_4_code 11 = .ok (.istore_n 2, 1) := by decide +kernel
theorem d_Givings_betterClosed_12 : decode prog_3_method_4_code 12 = .ok (.iconst 0, 1) := by decide +kernel
theorem d_Givings_betterClosed_13 : decode prog_3_method_4_code 13 = .ok (.istore_n 3, 1) := by decide +kernel
theorem d_Givings_betterClosed_14 : decode prog_3_method_4_code 14 = .ok (.iload_n 3, 1) := by decide +kernel
theorem d_Givings_betterClosed_15 : decode prog_3_method_4_code 15 = .ok (.aload_n 0, 1) := by decide +kernel
theorem d_Givings_betterClosed_16 : decode prog_3_method_4_code 16 = .ok (.getfield 37, 3) := by decide +kernel
theorem d_Givings_betterClosed_19 : decode prog_3_method_4_code 19 = .ok (.getfield 99, 3) := by decide +kernel
theorem d_Givings_betterClosed_22 : decode prog_3_method_4_code 22 = .ok (.if_icmp .ge 24, 3) := by decide +kernel
theorem d_Givings_betterClosed_25 : decode prog_3_method_4_code 25 = .ok (.aload_n 0, 1) := by decide +kernel
theorem d_Givings_betterClosed_26 : decode prog_3_method_4_code 26 = .ok (.iload_n 3, 1) := by decide +kernel
theorem d_Givings_betterClosed_27 : decode prog_3_method_4_code 27 = .ok (.invokevirtual 95, 3) := by decide +kernel
theorem d_Givings_betterClosed_30 : decode prog_3_method_4_code 30 = .ok (.iload_n 1, 1) := by decide +kernel
theorem d_Givings_betterClosed_31 : decode prog_3_method_4_code 31 = .ok (.if_icmp .le 9, 3) := by decide +kernel
theorem d_Givings_betterClosed_34 : decode prog_3_method_4_code 34 = .ok (.iload_n 2, 1) := by decide +kernel
theorem d_Givings_betterClosed_35 : decode prog_3_method_4_code 35 = .ok (.iconst 1, 1) := by decide +kernel
theorem d_Givings_betterClosed_36 : decode prog_3_method_4_code 36 = .ok (.iload_n 3, 1) := by decide +kernel
theorem d_Givings_betterClosed_37 : decode prog_3_method_4_code 37 = .ok (.ishl, 1) := by decide +kernel
theorem d_Givings_betterClosed_38 : decode prog_3_method_4_code 38 = .ok (.ior, 1) := by decide +kernel
theorem d_Givings_betterClosed_39 : decode prog_3_method_4_code 39 = .ok (.istore_n 2, 1) := by decide +kernel
theorem d_Givings_betterClosed_40 : decode prog_3_method_4_code 40 = .ok (.iinc 3 1, 3) := by decide +kernel
theorem d_Givings_betterClosed_43 : decode prog_3_method_4_code 43 = .ok (.goto (-29), 3) := by decide +kernel
theorem d_Givings_betterClosed_46 : decode prog_3_method_4_code 46 = .ok (.iload_n 2, 1) := by decide +kernel
theorem d_Givings_betterClosed_47 : decode prog_3_method_4_code 47 = .ok (.ireturn, 1) := by decide +kernel
noncomputable def Lc_Givings_betterClosed_1 : Xp Bool := o2 (fun x y => decide (x < y)) (vI 3) (gI 2 0 (gR 8 5 (vR 0)))
noncomputable def Lb_Givings_betterClosed_1 : Sm := sIf (o2 (fun x y => decide (x > y)) (cI (mV 8 D_Givings_gainWithout) [asV Value.ref (vR 0), asV Value.int (vI 3)]) (vI 1)) (sSet 2 (asV Value.int (o2 (fun x y => x ||| y) (vI 2) (o2 (fun (x y : Int32) => x <<< (y &&& 31)) (kI (ii 1)) (vI 3))))) (sSkip)
noncomputable def Lu_Givings_betterClosed_1 : Sm := sInc 3 (ii 1)
noncomputable def F_Givings_betterClosed : Sm := sSeq (sCall (mV 8 D_Givings_fillGains) [asV Value.ref (vR 0)]) (sSeq (sDecl (asV Value.int (cI (mV 8 D_Givings_gainWithout) [asV Value.ref (vR 0), asV Value.int (kI (ii (-1)))]))) (sSeq (sDecl (asV Value.int (kI (ii 0)))) (sSeq (sBlk 3 (sSeq (sDecl (asV Value.int (kI (ii 0)))) (sWh (Lc_Givings_betterClosed_1) (Lb_Givings_betterClosed_1) Lu_Givings_betterClosed_1))) (sRet (asV Value.int (vI 2))))))
theorem mf_Givings_betterClosed : Mf y_Givings_betterClosed prog_3_method_4_code 4 (some .int) 0 := ⟨tw_1178, tw_130, by decide +kernel⟩
noncomputable def D_Givings_betterClosed : Dn := runS [1] F_Givings_betterClosed
theorem ok_Givings_betterClosed : MOK y_Givings_betterClosed prog_3_method_4_code 4 (some .int) 5 0 0 D_Givings_betterClosed := MOK.of (by decide) (by decide) (show SO Y_Givings_betterClosed [(0, 1)] [(0, 1), (1, 1), (2, 1)] 0 48 (([], 0), ([], 0)) F_Givings_betterClosed from
  (s_seq (sl1 := [(0, 1)]) (p1 := 4) (s_call (p1 := 1) (a_cons (ι := Value.ref) (k0 := 1) (p1 := 1) (fun _ => rfl) (e_aload_n (k0 := 0) d_Givings_betterClosed_0 rfl rfl) a_nil) (k_virt ok_Givings_fillGains mf_Givings_fillGains ⟨tw_1086, tw_31⟩ rfl tw_1084 d_Givings_betterClosed_1 (by decide) (by decide) (by decide))) (s_seq (sl1 := [(0, 1), (1, 1)]) (p1 := 10) (s_decl (p1 := 9) (e_cI (p1 := 6) (a_cons (ι := Value.ref) (k0 := 1) (p1 := 5) (fun _ => rfl) (e_aload_n (k0 := 0) d_Givings_betterClosed_4 rfl rfl) (a_cons (ι := Value.int) (k0 := 1) (p1 := 6) (fun _ => rfl) (e_iconst d_Givings_betterClosed_5 (by decide)) a_nil)) (k_virt ok_Givings_gainWithout mf_Givings_gainWithout ⟨tw_1181, tw_43⟩ rfl tw_1179 d_Givings_betterClosed_6 (by decide) (by decide) (by decide))) (t_istore_n d_Givings_betterClosed_9 rfl (by decide)) rfl) (s_seq (sl1 := [(0, 1), (1, 1), (2, 1)]) (p1 := 12) (s_decl (p1 := 11) (e_iconst d_Givings_betterClosed_10 (by decide)) (t_istore_n d_Givings_betterClosed_11 rfl (by decide)) rfl) (s_seq (sl1 := [(0, 1), (1, 1), (2, 1)]) (p1 := 46) (s_blk (sl1 := [(0, 1), (1, 1), (2, 1), (3, 1)]) (s_seq (sl1 := [(0, 1), (1, 1), (2, 1), (3, 1)]) (p1 := 14) (s_decl (p1 := 13) (e_iconst d_Givings_betterClosed_12 (by decide)) (t_istore_n d_Givings_betterClosed_13 rfl (by decide)) rfl) (s_for (pt := 25) (pu := 40) (pf := 46) (pg := 0) (c_icmp_geF (p1 := 15) (p2 := 22) (tg := 46) (e_iload_n (k0 := 3) d_Givings_betterClosed_14 rfl rfl) (e_gI (k0 := 0) (p1 := 19) cf_2 (e_gR (k0 := 5) (p1 := 16) cf_8 (e_aload_n (k0 := 0) d_Givings_betterClosed_15 rfl rfl) (by decide) tw_448 d_Givings_betterClosed_16) (by decide) tw_199 d_Givings_betterClosed_19) d_Givings_betterClosed_22 rfl) (s_if (pt := 34) (pf := 40) (c_icmp_leF (p1 := 30) (p2 := 31) (tg := 40) (e_cI (p1 := 27) (a_cons (ι := Value.ref) (k0 := 1) (p1 := 26) (fun _ => rfl) (e_aload_n (k0 := 0) d_Givings_betterClosed_25 rfl rfl) (a_cons (ι := Value.int) (k0 := 1) (p1 := 27) (fun _ => rfl) (e_iload_n (k0 := 3) d_Givings_betterClosed_26 rfl rfl) a_nil)) (k_virt ok_Givings_gainWithout mf_Givings_gainWithout ⟨tw_1181, tw_43⟩ rfl tw_1179 d_Givings_betterClosed_27 (by decide) (by decide) (by decide))) (e_iload_n (k0 := 1) d_Givings_betterClosed_30 rfl rfl) d_Givings_betterClosed_31 rfl) (s_set (k0 := 2) (p1 := 39) (e_ior (p1 := 35) (p2 := 38) (e_iload_n (k0 := 2) d_Givings_betterClosed_34 rfl rfl) (e_ishl (p1 := 36) (p2 := 37) (e_iconst d_Givings_betterClosed_35 (by decide)) (e_iload_n (k0 := 3) d_Givings_betterClosed_36 rfl rfl) d_Givings_betterClosed_37) d_Givings_betterClosed_38) (t_istore_n d_Givings_betterClosed_39 rfl (by decide)) rfl rfl) s_skip) (s_goto (p1 := 43) (s_inc (k0 := 3) d_Givings_betterClosed_40 rfl rfl (Nat.le_of_ble_eq_true rfl) rfl) d_Givings_betterClosed_43 rfl))) rfl) (s_ret (p1 := 47) (e_iload_n (k0 := 2) d_Givings_betterClosed_46 rfl rfl) rfl d_Givings_betterClosed_47))))))

/-! Methods: bytes, denotations, that the bytes do so (written by wip/whole/jgen.py). -/
/-! BlinkerCross$Plan.fillTables()V -/
abbrev y_Plan_fillTables : MethodName := ⟨"BlinkerCross$Plan", "fillTables", "()V"⟩
abbrev Y_Plan_fillTables : Yt := (prog_7_method_3_code, 6, "BlinkerCross$Plan", 4, none, "fillTables")
theorem d_Plan_fillTables_0 : decode prog_7_method_3_code 0 = .ok (.iconst 0, 1) := by decide +kernel
theorem d_Plan_fillTables_1 : decode prog_7_method_3_code 1 = .ok (.istore_n 1, 1) := by decide +kernel
theorem d_Plan_fillTables_2 : decode prog_7_method_3_code 2 = .ok (.iload_n 1, 1) := by decide +kernel
theorem d_Plan_fillTables_3 : decode prog_7_method_3_code 3 = .ok (.aload_n 0, 1) := by decide +kernel
theorem d_Plan_fillTables_4 : decode prog_7_method_3_code 4 = .ok (.getfield 37, 3) := by decide +kernel
theorem d_Plan_fillTables_7 : decode prog_7_method_3_code 7 = .ok (.getfield 71, 3) := by decide +kernel
theorem d_Plan_fillTables_10 : decode prog_7_method_3_code 10 = .ok (.if_icmp .ge 128, 3) := by decide +kernel
theorem d_Plan_fillTables_13 : decode prog_7_method_3_code 13 = .ok (.iconst 1, 1) := by decide +kernel
theorem d_Plan_fillTables_14 : decode prog_7_method_3_code 14 = .ok (.istore_n 2, 1) := by decide +kernel
theorem d_Plan_fillTables_15 : decode prog_7_method_3_code 15 = .ok (.iload_n 2, 1) := by decide +kernel
theorem d_Plan_fillTables_16 : decode prog_7_method_3_code 16 = .ok (.aload_n 0, 1) := by decide +kernel
theorem d_Plan_fillTables_17 : decode prog_7_method_3_code 17 = .ok (.getfield 37, 3) := by decide +kernel
theorem d_Plan_fillTables_20 : decode prog_7_method_3_code 20 = .ok (.getfield 76, 3) := by decide +kernel
theorem d_Plan_fillTables_23 : decode prog_7_method_3_code 23 = .ok (.if_icmp .gt 109, 3) := by decide +kernel
theorem d_Plan_fillTables_26 : decode prog_7_method_3_code 26 = .ok (.iload_n 1, 1) := by decide +kernel
theorem d_Plan_fillTables_27 : decode prog_7_method_3_code 27 = .ok (.bipush 6, 2) := by decide +kernel
theorem d_Plan_fillTables_29 : decode prog_7_method_3_code 29 = .ok (.imul, 1) := by decide +kernel
theorem d_Plan_fillTables_30 : decode prog_7_method_3_code 30 = .ok (.iload_n 2, 1) := by decide +kernel
theorem d_Plan_fillTables_31 : decode prog_7_method_3_code 31 = .ok (.iadd, 1) := by decide +kernel
theorem d_Plan_fillTables_32 : decode prog_7_method_3_code 32 = .ok (.iconst 1, 1) := by decide +kernel
theorem d_Plan_fillTables_33 : decode prog_7_method_3_code 33 = .ok (.isub, 1) := by decide +kernel
theorem d_Plan_fillTables_34 : decode prog_7_method_3_code 34 = .ok (.istore_n 3, 1) := by decide +kernel
theorem d_Plan_fillTables_35 : decode prog_7_method_3_code 35 = .ok (.aload_n 0, 1) := by decide +kernel
theorem d_Plan_fillTables_36 : decode prog_7_method_3_code 36 = .ok (.getfield 41, 3) := by decide +kernel
theorem d_Plan_fillTables_39 : decode prog_7_method_3_code 39 = .ok (.iload_n 1, 1) := by decide +kernel
theorem d_Plan_fillTables_40 : decode prog_7_method_3_code 40 = .ok (.iload_n 2, 1) := by decide +kernel
theorem d_Plan_fillTables_41 : decode prog_7_method_3_code 41 = .ok (.iconst (-1), 1) := by decide +kernel
theorem d_Plan_fillTables_42 : decode prog_7_method_3_code 42 = .ok (.invokevirtual 79, 3) := by decide +kernel
theorem d_Plan_fillTables_45 : decode prog_7_method_3_code 45 = .ok (.istore 4, 2) := by decide +kernel
theorem d_Plan_fillTables_47 : decode prog_7_method_3_code 47 = .ok (.aload_n 0, 1) := by decide +kernel
theorem d_Plan_fillTables_48 : decode prog_7_method_3_code 48 = .ok (.getfield 15, 3) := by decide +kernel
theorem d_Plan_fillTables_51 : decode prog_7_method_3_code 51 = .ok (.iload_n 3, 1) := by decide +kernel
theorem d_Plan_fillTables_52 : decode prog_7_method_3_code 52 = .ok (.iconst 0, 1) := by decide +kernel
theorem d_Plan_fillTables_53 : decode prog_7_method_3_code 53 = .ok (.iload 4, 2) := by decide +kernel
theorem d_Plan_fillTables_55 : decode prog_7_method_3_code 55 = .ok (.invokestatic 83, 3) := by decide +kernel
theorem d_Plan_fillTables_58 : decode prog_7_method_3_code 58 = .ok (.iastore, 1) := by decide +kernel
theorem d_Plan_fillTables_59 : decode prog_7_method_3_code 59 = .ok (.aload_n 0, 1) := by decide +kernel
theorem d_Plan_fillTables_60 : decode prog_7_method_3_code 60 = .ok (.getfield 18, 3) := by decide +kernel
theorem d_Plan_fillTables_63 : decode prog_7_method_3_code 63 = .ok (.iload_n 3, 1) := by decide +kernel
theorem d_Plan_fillTables_64 : decode prog_7_method_3_code 64 = .ok (.aload_n 0, 1) := by decide +kernel
theorem d_Plan_fillTables_65 : decode prog_7_method_3_code 65 = .ok (.getfield 41, 3) := by decide +kernel
theorem d_Plan_fillTables_68 : decode prog_7_method_3_code 68 = .ok (.iload_n 1, 1) := by decide +kernel
theorem d_Plan_fillTables_69 : decode prog_7_method_3_code 69 = .ok (.iload 4, 2) := by decide +kernel
theorem d_Plan_fillTables_71 : decode prog_7_method_3_code 71 = .ok (.invokevirtual 89, 3) := by decide +kernel
theorem d_Plan_fillTables_74 : decode prog_7_method_3_code 74 = .ok (.iastore, 1) := by decide +kernel
theorem d_Plan_fillTables_75 : decode prog_7_method_3_code 75 = .ok (.iconst 1, 1) := by decide +kernel
theorem d_Plan_fillTables_76 : decode prog_7_method_3_code 76 = .ok (.istore 5, 2) := by decide +kernel
theorem d_Plan_fillTables_78 : decode prog_7_method_3_code 78 = .ok (.iload 5, 2) := by decide +kernel
theorem d_Plan_fillTables_80 : decode prog_7_method_3_code 80 = .ok (.aload_n 0, 1) := by decide +kernel
theorem d_Plan_fillTables_81 : decode prog_7_method_3_code 81 = .ok (.getfield 37, 3) := by decide +kernel
theorem d_Plan_fillTables_84 : decode prog_7_method_3_code 84 = .ok (.getfield 71, 3) := by decide +kernel
theorem d_Plan_fillTables_87 : decode prog_7_method_3_code 87 = .ok (.if_icmp .gt 39, 3) := by decide +kernel
theorem d_Plan_fillTables_90 : decode prog_7_method_3_code 90 = .ok (.aload_n 0, 1) := by decide +kernel
theorem d_Plan_fillTables_91 : decode prog_7_method_3_code 91 = .ok (.getfield 21, 3) := by decide +kernel
theorem d_Plan_fillTables_94 : decode prog_7_method_3_code 94 = .ok (.iload_n 3, 1) := by decide +kernel
theorem d_Plan_fillTables_95 : decode prog_7_method_3_code 95 = .ok (.iconst 5, 1) := by decide +kernel
theorem d_Plan_fillTables_96 : decode prog_7_method_3_code 96 = .ok (.imul, 1) := by decide +kernel
theorem d_Plan_fillTables_97 : decode prog_7_method_3_code 97 = .ok (.iload 5, 2) := by decide +kernel
theorem d_Plan_fillTables_99 : decode prog_7_method_3_code 99 = .ok (.iadd, 1) := by decide +kernel
theorem d_Plan_fillTables_100 : decode prog_7_method_3_code 100 = .ok (.iconst 1, 1) := by decide +kernel
theorem d_Plan_fillTables_101 : decode prog_7_method_3_code 101 = .ok (.isub, 1) := by decide +kernel
theorem d_Plan_fillTables_102 : decode prog_7_method_3_code 102 = .ok (.aload_n 0, 1) := by decide +kernel
theorem d_Plan_fillTables_103 : decode prog_7_method_3_code 103 = .ok (.getfield 45, 3) := by decide +kernel
theorem d_Plan_fillTables_106 : decode prog_7_method_3_code 106 = .ok (.aload_n 0, 1) := by decide +kernel
theorem d_Plan_fillTables_107 : decode prog_7_method_3_code 107 = .ok (.getfield 41, 3) := by decide +kernel
theorem d_Plan_fillTables_110 : decode prog_7_method_3_code 110 = .ok (.iload_n 1, 1) := by decide +kernel
theorem d_Plan_fillTables_111 : decode prog_7_method_3_code 111 = .ok (.iload_n 2, 1) := by decide +kernel
theorem d_Plan_fillTables_112 : decode prog_7_method_3_code 112 = .ok (.iload 4, 2) := by decide +kernel
theorem d_Plan_fillTables_114 : decode prog_7_method_3_code 114 = .ok (.iload 5, 2) := by decide +kernel
theorem d_Plan_fillTables_116 : decode prog_7_method_3_code 116 = .ok (.invokevirtual 92, 3) := by decide +kernel
theorem d_Plan_fillTables_119 : decode prog_7_method_3_code 119 = .ok (.iastore, 1) := by decide +kernel
theorem d_Plan_fillTables_120 : decode prog_7_method_3_code 120 = .ok (.iinc 5 1, 3) := by decide +kernel
theorem d_Plan_fillTables_123 : decode prog_7_method_3_code 123 = .ok (.goto (-45), 3) := by decide +kernel
theorem d_Plan_fillTables_126 : decode prog_7_method_3_code 126 = .ok (.iinc 2 1, 3) := by decide +kernel
theorem d_Plan_fillTables_129 : decode prog_7_method_3_code 129 = .ok (.goto (-114), 3) := by decide +kernel
theorem d_Plan_fillTables_132 : decode prog_7_method_3_code 132 = .ok (.iinc 1 1, 3) := by decide +kernel
theorem d_Plan_fillTables_135 : decode prog_7_method_3_code 135 = .ok (.goto (-133), 3) := by decide +kernel
theorem d_Plan_fillTables_138 : decode prog_7_method_3_code 138 = .ok (.return_, 1) := by decide +kernel
noncomputable def Lc_Plan_fillTables_1 : Xp Bool := o2 (fun x y => decide (x ≤ y)) (vI 5) (gI 2 1 (gR 7 4 (vR 0)))
noncomputable def Lb_Plan_fillTables_1 : Sm := sAst 0 (gR 7 9 (vR 0)) (o2 (fun x y => x - y) (o2 (fun x y => x + y) (o2 (fun x y => x * y) (vI 3) (kI (ii 5))) (vI 5)) (kI (ii 1))) (cI (mV 5 D_Laws_standsWith) [asV Value.ref (gR 7 6 (vR 0)), asV Value.ref (gR 7 5 (vR 0)), asV Value.int (vI 1), asV Value.int (vI 2), asV Value.int (vI 4), asV Value.int (vI 5)])
noncomputable def Lu_Plan_fillTables_1 : Sm := sInc 5 (ii 1)
noncomputable def Lc_Plan_fillTables_2 : Xp Bool := o2 (fun x y => decide (x ≤ y)) (vI 2) (gI 2 0 (gR 7 4 (vR 0)))
noncomputable def Lb_Plan_fillTables_2 : Sm := sBlk 3 (sSeq (sDecl (asV Value.int (o2 (fun x y => x - y) (o2 (fun x y => x + y) (o2 (fun x y => x * y) (vI 1) (kI (ii 6))) (vI 2)) (kI (ii 1))))) (sSeq (sDecl (asV Value.int (cI (mV 4 D_Scene_choiceWith) [asV Value.ref (gR 7 5 (vR 0)), asV Value.int (vI 1), asV Value.int (vI 2), asV Value.int (kI (ii (-1)))]))) (sSeq (sAst 0 (gR 7 7 (vR 0)) (vI 3) (o2 (fun x y => if x < y then y else x) (kI (ii 0)) (vI 4))) (sSeq (sAst 0 (gR 7 8 (vR 0)) (vI 3) (cI (mV 4 D_Scene_missedBy) [asV Value.ref (gR 7 5 (vR 0)), asV Value.int (vI 1), asV Value.int (vI 4)])) (sBlk 5 (sSeq (sDecl (asV Value.int (kI (ii 1)))) (sWh (Lc_Plan_fillTables_1) (Lb_Plan_fillTables_1) Lu_Plan_fillTables_1)))))))
noncomputable def Lu_Plan_fillTables_2 : Sm := sInc 2 (ii 1)
noncomputable def Lc_Plan_fillTables_3 : Xp Bool := o2 (fun x y => decide (x < y)) (vI 1) (gI 2 1 (gR 7 4 (vR 0)))
noncomputable def Lb_Plan_fillTables_3 : Sm := sBlk 2 (sSeq (sDecl (asV Value.int (kI (ii 1)))) (sWh (Lc_Plan_fillTables_2) (Lb_Plan_fillTables_2) Lu_Plan_fillTables_2))
noncomputable def Lu_Plan_fillTables_3 : Sm := sInc 1 (ii 1)
noncomputable def F_Plan_fillTables : Sm := sSeq (sBlk 1 (sSeq (sDecl (asV Value.int (kI (ii 0)))) (sWh (Lc_Plan_fillTables_3) (Lb_Plan_fillTables_3) Lu_Plan_fillTables_3))) (sRetV)
theorem mf_Plan_fillTables : Mf y_Plan_fillTables prog_7_method_3_code 6 none 0 := ⟨tw_1057, tw_129, by decide +kernel⟩
noncomputable def D_Plan_fillTables : Dn := runS [1] F_Plan_fillTables
theorem ok_Plan_fillTables : MOK y_Plan_fillTables prog_7_method_3_code 6 none 4 0 0 D_Plan_fillTables := MOK.of (by decide) (by decide) (show SO Y_Plan_fillTables [(0, 1)] [(0, 1)] 0 139 (([], 0), ([], 0)) F_Plan_fillTables from
  (s_seq (sl1 := [(0, 1)]) (p1 := 138) (s_blk (sl1 := [(0, 1), (1, 1)]) (s_seq (sl1 := [(0, 1), (1, 1)]) (p1 := 2) (s_decl (p1 := 1) (e_iconst d_Plan_fillTables_0 (by decide)) (t_istore_n d_Plan_fillTables_1 rfl (by decide)) rfl) (s_for (pt := 13) (pu := 132) (pf := 138) (pg := 0) (c_icmp_geF (p1 := 3) (p2 := 10) (tg := 138) (e_iload_n (k0 := 1) d_Plan_fillTables_2 rfl rfl) (e_gI (k0 := 1) (p1 := 7) cf_2 (e_gR (k0 := 4) (p1 := 4) cf_7 (e_aload_n (k0 := 0) d_Plan_fillTables_3 rfl rfl) (by decide) tw_393 d_Plan_fillTables_4) (by decide) tw_205 d_Plan_fillTables_7) d_Plan_fillTables_10 rfl) (s_blk (sl1 := [(0, 1), (1, 1), (2, 1)]) (s_seq (sl1 := [(0, 1), (1, 1), (2, 1)]) (p1 := 15) (s_decl (p1 := 14) (e_iconst d_Plan_fillTables_13 (by decide)) (t_istore_n d_Plan_fillTables_14 rfl (by decide)) rfl) (s_for (pt := 26) (pu := 126) (pf := 132) (pg := 0) (c_icmp_gtF (p1 := 16) (p2 := 23) (tg := 132) (e_iload_n (k0 := 2) d_Plan_fillTables_15 rfl rfl) (e_gI (k0 := 0) (p1 := 20) cf_2 (e_gR (k0 := 4) (p1 := 17) cf_7 (e_aload_n (k0 := 0) d_Plan_fillTables_16 rfl rfl) (by decide) tw_393 d_Plan_fillTables_17) (by decide) tw_198 d_Plan_fillTables_20) d_Plan_fillTables_23 rfl) (s_blk (sl1 := [(0, 1), (1, 1), (2, 1), (3, 1), (4, 1)]) (s_seq (sl1 := [(0, 1), (1, 1), (2, 1), (3, 1)]) (p1 := 35) (s_decl (p1 := 34) (e_isub (p1 := 32) (p2 := 33) (e_iadd (p1 := 30) (p2 := 31) (e_imul (p1 := 27) (p2 := 29) (e_iload_n (k0 := 1) d_Plan_fillTables_26 rfl rfl) (e_bipush d_Plan_fillTables_27 (by decide)) d_Plan_fillTables_29) (e_iload_n (k0 := 2) d_Plan_fillTables_30 rfl rfl) d_Plan_fillTables_31) (e_iconst d_Plan_fillTables_32 (by decide)) d_Plan_fillTables_33) (t_istore_n d_Plan_fillTables_34 rfl (by decide)) rfl) (s_seq (sl1 := [(0, 1), (1, 1), (2, 1), (3, 1), (4, 1)]) (p1 := 47) (s_decl (p1 := 45) (e_cI (p1 := 42) (a_cons (ι := Value.ref) (k0 := 1) (p1 := 39) (fun _ => rfl) (e_gR (k0 := 5) (p1 := 36) cf_7 (e_aload_n (k0 := 0) d_Plan_fillTables_35 rfl rfl) (by decide) tw_394 d_Plan_fillTables_36) (a_cons (ι := Value.int) (k0 := 1) (p1 := 40) (fun _ => rfl) (e_iload_n (k0 := 1) d_Plan_fillTables_39 rfl rfl) (a_cons (ι := Value.int) (k0 := 1) (p1 := 41) (fun _ => rfl) (e_iload_n (k0 := 2) d_Plan_fillTables_40 rfl rfl) (a_cons (ι := Value.int) (k0 := 1) (p1 := 42) (fun _ => rfl) (e_iconst d_Plan_fillTables_41 (by decide)) a_nil)))) (k_virt ok_Scene_choiceWith mf_Scene_choiceWith ⟨tw_865, tw_866⟩ rfl tw_1058 d_Plan_fillTables_42 (by decide) (by decide) (by decide))) (t_istore d_Plan_fillTables_45 (by decide)) rfl) (s_seq (sl1 := [(0, 1), (1, 1), (2, 1), (3, 1), (4, 1)]) (p1 := 59) (s_ast (p1 := 51) (p2 := 52) (p3 := 58) (e_gR (k0 := 7) (p1 := 48) cf_7 (e_aload_n (k0 := 0) d_Plan_fillTables_47 rfl rfl) (by decide) tw_396 d_Plan_fillTables_48) (e_iload_n (k0 := 3) d_Plan_fillTables_51 rfl rfl) (e_max (p1 := 53) (p2 := 55) (e_iconst d_Plan_fillTables_52 (by decide)) (e_iload (k0 := 4) d_Plan_fillTables_53 rfl) ⟨tw_1059, tw_720, tw_139, tw_721⟩ d_Plan_fillTables_55 (by decide) (by decide)) (as_i d_Plan_fillTables_58)) (s_seq (sl1 := [(0, 1), (1, 1), (2, 1), (3, 1), (4, 1)]) (p1 := 75) (s_ast (p1 := 63) (p2 := 64) (p3 := 74) (e_gR (k0 := 8) (p1 := 60) cf_7 (e_aload_n (k0 := 0) d_Plan_fillTables_59 rfl rfl) (by decide) tw_397 d_Plan_fillTables_60) (e_iload_n (k0 := 3) d_Plan_fillTables_63 rfl rfl) (e_cI (p1 := 71) (a_cons (ι := Value.ref) (k0 := 1) (p1 := 68) (fun _ => rfl) (e_gR (k0 := 5) (p1 := 65) cf_7 (e_aload_n (k0 := 0) d_Plan_fillTables_64 rfl rfl) (by decide) tw_394 d_Plan_fillTables_65) (a_cons (ι := Value.int) (k0 := 1) (p1 := 69) (fun _ => rfl) (e_iload_n (k0 := 1) d_Plan_fillTables_68 rfl rfl) (a_cons (ι := Value.int) (k0 := 1) (p1 := 71) (fun _ => rfl) (e_iload (k0 := 4) d_Plan_fillTables_69 rfl) a_nil))) (k_virt ok_Scene_missedBy mf_Scene_missedBy ⟨tw_949, tw_950⟩ rfl tw_1060 d_Plan_fillTables_71 (by decide) (by decide) (by decide))) (as_i d_Plan_fillTables_74)) (s_blk (sl1 := [(0, 1), (1, 1), (2, 1), (3, 1), (4, 1), (5, 1)]) (s_seq (sl1 := [(0, 1), (1, 1), (2, 1), (3, 1), (4, 1), (5, 1)]) (p1 := 78) (s_decl (p1 := 76) (e_iconst d_Plan_fillTables_75 (by decide)) (t_istore d_Plan_fillTables_76 (by decide)) rfl) (s_for (pt := 90) (pu := 120) (pf := 126) (pg := 0) (c_icmp_gtF (p1 := 80) (p2 := 87) (tg := 126) (e_iload (k0 := 5) d_Plan_fillTables_78 rfl) (e_gI (k0 := 1) (p1 := 84) cf_2 (e_gR (k0 := 4) (p1 := 81) cf_7 (e_aload_n (k0 := 0) d_Plan_fillTables_80 rfl rfl) (by decide) tw_393 d_Plan_fillTables_81) (by decide) tw_205 d_Plan_fillTables_84) d_Plan_fillTables_87 rfl) (s_ast (p1 := 94) (p2 := 102) (p3 := 119) (e_gR (k0 := 9) (p1 := 91) cf_7 (e_aload_n (k0 := 0) d_Plan_fillTables_90 rfl rfl) (by decide) tw_398 d_Plan_fillTables_91) (e_isub (p1 := 100) (p2 := 101) (e_iadd (p1 := 97) (p2 := 99) (e_imul (p1 := 95) (p2 := 96) (e_iload_n (k0 := 3) d_Plan_fillTables_94 rfl rfl) (e_iconst d_Plan_fillTables_95 (by decide)) d_Plan_fillTables_96) (e_iload (k0 := 5) d_Plan_fillTables_97 rfl) d_Plan_fillTables_99) (e_iconst d_Plan_fillTables_100 (by decide)) d_Plan_fillTables_101) (e_cI (p1 := 116) (a_cons (ι := Value.ref) (k0 := 1) (p1 := 106) (fun _ => rfl) (e_gR (k0 := 6) (p1 := 103) cf_7 (e_aload_n (k0 := 0) d_Plan_fillTables_102 rfl rfl) (by decide) tw_395 d_Plan_fillTables_103) (a_cons (ι := Value.ref) (k0 := 1) (p1 := 110) (fun _ => rfl) (e_gR (k0 := 5) (p1 := 107) cf_7 (e_aload_n (k0 := 0) d_Plan_fillTables_106 rfl rfl) (by decide) tw_394 d_Plan_fillTables_107) (a_cons (ι := Value.int) (k0 := 1) (p1 := 111) (fun _ => rfl) (e_iload_n (k0 := 1) d_Plan_fillTables_110 rfl rfl) (a_cons (ι := Value.int) (k0 := 1) (p1 := 112) (fun _ => rfl) (e_iload_n (k0 := 2) d_Plan_fillTables_111 rfl rfl) (a_cons (ι := Value.int) (k0 := 1) (p1 := 114) (fun _ => rfl) (e_iload (k0 := 4) d_Plan_fillTables_112 rfl) (a_cons (ι := Value.int) (k0 := 1) (p1 := 116) (fun _ => rfl) (e_iload (k0 := 5) d_Plan_fillTables_114 rfl) a_nil)))))) (k_virt ok_Laws_standsWith mf_Laws_standsWith ⟨tw_1062, tw_1063⟩ rfl tw_1061 d_Plan_fillTables_116 (by decide) (by decide) (by decide))) (as_i d_Plan_fillTables_119)) (s_goto (p1 := 123) (s_inc (k0 := 5) d_Plan_fillTables_120 rfl rfl (Nat.le_of_ble_eq_true rfl) rfl) d_Plan_fillTables_123 rfl))) rfl))))) rfl) (s_goto (p1 := 129) (s_inc (k0 := 2) d_Plan_fillTables_126 rfl rfl (Nat.le_of_ble_eq_true rfl) rfl) d_Plan_fillTables_129 rfl))) rfl) (s_goto (p1 := 135) (s_inc (k0 := 1) d_Plan_fillTables_132 rfl rfl (Nat.le_of_ble_eq_true rfl) rfl) d_Plan_fillTables_135 rfl))) rfl) (s_retV rfl d_Plan_fillTables_138)))
/-! BlinkerCross$Plan.weigh(I)V -/
abbrev y_Plan_weigh : MethodName := ⟨"BlinkerCross$Plan", "weigh", "(I)V"⟩
abbrev Y_Plan_weigh : Yt := (prog_7_method_5_code, 6, "BlinkerCross$Plan", 1, none, "weigh")
theorem d_Plan_weigh_0 : decode prog_7_method_5_code 0 = .ok (.iconst 0, 1) := by decide +kernel
theorem d_Plan_weigh_1 : decode prog_7_method_5_code 1 = .ok (.istore_n 2, 1) := by decide +kernel
theorem d_Plan_weigh_2 : decode prog_7_method_5_code 2 = .ok (.iconst 0, 1) := by decide +kernel
theorem d_Plan_weigh_3 : decode prog_7_method_5_code 3 = .ok (.istore_n 3, 1) := by decide +kernel
theorem d_Plan_weigh_4 : decode prog_7_method_5_code 4 = .ok (.iload_n 3, 1) := by decide +kernel
theorem d_Plan_weigh_5 : decode prog_7_method_5_code 5 = .ok (.aload_n 0, 1) := by decide +kernel
theorem d_Plan_weigh_6 : decode prog_7_method_5_code 6 = .ok (.getfield 37, 3) := by decide +kernel
theorem d_Plan_weigh_9 : decode prog_7_method_5_code 9 = .ok (.getfield 71, 3) := by decide +kernel
theorem d_Plan_weigh_12 : decode prog_7_method_5_code 12 = .ok (.if_icmp .ge 64, 3) := by decide +kernel
theorem d_Plan_weigh_15 : decode prog_7_method_5_code 15 = .ok (.iload_n 3, 1) := by decide +kernel
theorem d_Plan_weigh_16 : decode prog_7_method_5_code 16 = .ok (.bipush 6, 2) := by decide +kernel
theorem d_Plan_weigh_18 : decode prog_7_method_5_code 18 = .ok (.imul, 1) := by decide +kernel
theorem d_Plan_weigh_19 : decode prog_7_method_5_code 19 = .ok (.aload_n 0, 1) := by decide +kernel
theorem d_Plan_weigh_20 : decode prog_7_method_5_code 20 = .ok (.getfield 24, 3) := by decide +kernel
theorem d_Plan_weigh_23 : decode prog_7_method_5_code 23 = .ok (.iload_n 3, 1) := by decide +kernel
theorem d_Plan_weigh_24 : decode prog_7_method_5_code 24 = .ok (.iaload, 1) := by decide +kernel
theorem d_Plan_weigh_25 : decode prog_7_method_5_code 25 = .ok (.iadd, 1) := by decide +kernel
theorem d_Plan_weigh_26 : decode prog_7_method_5_code 26 = .ok (.iconst 1, 1) := by decide +kernel
theorem d_Plan_weigh_27 : decode prog_7_method_5_code 27 = .ok (.isub, 1) := by decide +kernel
theorem d_Plan_weigh_28 : decode prog_7_method_5_code 28 = .ok (.istore 4, 2) := by decide +kernel
theorem d_Plan_weigh_30 : decode prog_7_method_5_code 30 = .ok (.aload_n 0, 1) := by decide +kernel
theorem d_Plan_weigh_31 : decode prog_7_method_5_code 31 = .ok (.getfield 27, 3) := by decide +kernel
theorem d_Plan_weigh_34 : decode prog_7_method_5_code 34 = .ok (.aload_n 0, 1) := by decide +kernel
theorem d_Plan_weigh_35 : decode prog_7_method_5_code 35 = .ok (.getfield 15, 3) := by decide +kernel
theorem d_Plan_weigh_38 : decode prog_7_method_5_code 38 = .ok (.iload 4, 2) := by decide +kernel
theorem d_Plan_weigh_40 : decode prog_7_method_5_code 40 = .ok (.iaload, 1) := by decide +kernel
theorem d_Plan_weigh_41 : decode prog_7_method_5_code 41 = .ok (.iaload, 1) := by decide +kernel
theorem d_Plan_weigh_42 : decode prog_7_method_5_code 42 = .ok (.istore 5, 2) := by decide +kernel
theorem d_Plan_weigh_44 : decode prog_7_method_5_code 44 = .ok (.iload_n 2, 1) := by decide +kernel
theorem d_Plan_weigh_45 : decode prog_7_method_5_code 45 = .ok (.iload 5, 2) := by decide +kernel
theorem d_Plan_weigh_47 : decode prog_7_method_5_code 47 = .ok (.ifCond .le 20, 3) := by decide +kernel
theorem d_Plan_weigh_50 : decode prog_7_method_5_code 50 = .ok (.aload_n 0, 1) := by decide +kernel
theorem d_Plan_weigh_51 : decode prog_7_method_5_code 51 = .ok (.getfield 21, 3) := by decide +kernel
theorem d_Plan_weigh_54 : decode prog_7_method_5_code 54 = .ok (.iload 4, 2) := by decide +kernel
theorem d_Plan_weigh_56 : decode prog_7_method_5_code 56 = .ok (.iconst 5, 1) := by decide +kernel
theorem d_Plan_weigh_57 : decode prog_7_method_5_code 57 = .ok (.imul, 1) := by decide +kernel
theorem d_Plan_weigh_58 : decode prog_7_method_5_code 58 = .ok (.iload 5, 2) := by decide +kernel
theorem d_Plan_weigh_60 : decode prog_7_method_5_code 60 = .ok (.iadd, 1) := by decide +kernel
theorem d_Plan_weigh_61 : decode prog_7_method_5_code 61 = .ok (.iconst 1, 1) := by decide +kernel
theorem d_Plan_weigh_62 : decode prog_7_method_5_code 62 = .ok (.isub, 1) := by decide +kernel
theorem d_Plan_weigh_63 : decode prog_7_method_5_code 63 = .ok (.iaload, 1) := by decide +kernel
theorem d_Plan_weigh_64 : decode prog_7_method_5_code 64 = .ok (.goto 4, 3) := by decide +kernel
theorem d_Plan_weigh_67 : decode prog_7_method_5_code 67 = .ok (.iconst 0, 1) := by decide +kernel
theorem d_Plan_weigh_68 : decode prog_7_method_5_code 68 = .ok (.iadd, 1) := by decide +kernel
theorem d_Plan_weigh_69 : decode prog_7_method_5_code 69 = .ok (.istore_n 2, 1) := by decide +kernel
theorem d_Plan_weigh_70 : decode prog_7_method_5_code 70 = .ok (.iinc 3 1, 3) := by decide +kernel
theorem d_Plan_weigh_73 : decode prog_7_method_5_code 73 = .ok (.goto (-69), 3) := by decide +kernel
theorem d_Plan_weigh_76 : decode prog_7_method_5_code 76 = .ok (.iload_n 2, 1) := by decide +kernel
theorem d_Plan_weigh_77 : decode prog_7_method_5_code 77 = .ok (.aload_n 0, 1) := by decide +kernel
theorem d_Plan_weigh_78 : decode prog_7_method_5_code 78 = .ok (.getfield 30, 3) := by decide +kernel
theorem d_Plan_weigh_81 : decode prog_7_method_5_code 81 = .ok (.if_icmp .gt 26, 3) := by decide +kernel
theorem d_Plan_weigh_84 : decode prog_7_method_5_code 84 = .ok (.aload_n 0, 1) := by decide +kernel
theorem d_Plan_weigh_85 : decode prog_7_method_5_code 85 = .ok (.getfield 57, 3) := by decide +kernel
theorem d_Plan_weigh_88 : decode prog_7_method_5_code 88 = .ok (.ifCond .eq 20, 3) := by decide +kernel
theorem d_Plan_weigh_91 : decode prog_7_method_5_code 91 = .ok (.iload_n 1, 1) := by decide +kernel
theorem d_Plan_weigh_92 : decode prog_7_method_5_code 92 = .ok (.aload_n 0, 1) := by decide +kernel
theorem d_Plan_weigh_93 : decode prog_7_method_5_code 93 = .ok (.getfield 61, 3) := by decide +kernel
theorem d_Plan_weigh_96 : decode prog_7_method_5_code 96 = .ok (.if_icmp .ne 12, 3) := by decide +kernel
theorem d_Plan_weigh_99 : decode prog_7_method_5_code 99 = .ok (.iload_n 2, 1) := by decide +kernel
theorem d_Plan_weigh_100 : decode prog_7_method_5_code 100 = .ok (.aload_n 0, 1) := by decide +kernel
theorem d_Plan_weigh_101 : decode prog_7_method_5_code 101 = .ok (.getfield 64, 3) := by decide +kernel
theorem d_Plan_weigh_104 : decode prog_7_method_5_code 104 = .ok (.if_icmp .lt 4, 3) := by decide +kernel
theorem d_Plan_weigh_107 : decode prog_7_method_5_code 107 = .ok (.return_, 1) := by decide +kernel
theorem d_Plan_weigh_108 : decode prog_7_method_5_code 108 = .ok (.aload_n 0, 1) := by decide +kernel
theorem d_Plan_weigh_109 : decode prog_7_method_5_code 109 = .ok (.iconst 1, 1) := by decide +kernel
theorem d_Plan_weigh_110 : decode prog_7_method_5_code 110 = .ok (.putfield 57, 3) := by decide +kernel
theorem d_Plan_weigh_113 : decode prog_7_method_5_code 113 = .ok (.aload_n 0, 1) := by decide +kernel
theorem d_Plan_weigh_114 : decode prog_7_method_5_code 114 = .ok (.iload_n 1, 1) := by decide +kernel
theorem d_Plan_weigh_115 : decode prog_7_method_5_code 115 = .ok (.putfield 61, 3) := by decide +kernel
theorem d_Plan_weigh_118 : decode prog_7_method_5_code 118 = .ok (.aload_n 0, 1) := by decide +kernel
theorem d_Plan_weigh_119 : decode prog_7_method_5_code 119 = .ok (.iload_n 2, 1) := by decide +kernel
theorem d_Plan_weigh_120 : decode prog_7_method_5_code 120 = .ok (.putfield 64, 3) := by decide +kernel
theorem d_Plan_weigh_123 : decode prog_7_method_5_code 123 = .ok (.aload_n 0, 1) := by decide +kernel
theorem d_Plan_weigh_124 : decode prog_7_method_5_code 124 = .ok (.getfield 24, 3) := by decide +kernel
theorem d_Plan_weigh_127 : decode prog_7_method_5_code 127 = .ok (.iconst 0, 1) := by decide +kernel
theorem d_Plan_weigh_128 : decode prog_7_method_5_code 128 = .ok (.aload_n 0, 1) := by decide +kernel
theorem d_Plan_weigh_129 : decode prog_7_method_5_code 129 = .ok (.getfield 9, 3) := by decide +kernel
theorem d_Plan_weigh_132 : decode prog_7_method_5_code 132 = .ok (.iconst 0, 1) := by decide +kernel
theorem d_Plan_weigh_133 : decode prog_7_method_5_code 133 = .ok (.iconst 5, 1) := by decide +kernel
theorem d_Plan_weigh_134 : decode prog_7_method_5_code 134 = .ok (.invokestatic 102, 3) := by decide +kernel
theorem d_Plan_weigh_137 : decode prog_7_method_5_code 137 = .ok (.return_, 1) := by decide +kernel
noncomputable def Lc_Plan_weigh_1 : Xp Bool := o2 (fun x y => decide (x < y)) (vI 3) (gI 2 1 (gR 7 4 (vR 0)))
noncomputable def Lb_Plan_weigh_1 : Sm := sBlk 4 (sSeq (sDecl (asV Value.int (o2 (fun x y => x - y) (o2 (fun x y => x + y) (o2 (fun x y => x * y) (vI 3) (kI (ii 6))) (aI 0 (gR 7 10 (vR 0)) (vI 3))) (kI (ii 1))))) (sSeq (sDecl (asV Value.int (aI 0 (gR 7 11 (vR 0)) (aI 0 (gR 7 7 (vR 0)) (vI 4))))) (sSet 2 (asV Value.int (o2 (fun x y => x + y) (vI 2) (iX (o1 (fun x => decide (x > 0)) (vI 5)) (aI 0 (gR 7 9 (vR 0)) (o2 (fun x y => x - y) (o2 (fun x y => x + y) (o2 (fun x y => x * y) (vI 4) (kI (ii 5))) (vI 5)) (kI (ii 1)))) (kI (ii 0))))))))
noncomputable def Lu_Plan_weigh_1 : Sm := sInc 3 (ii 1)
noncomputable def F_Plan_weigh : Sm := sSeq (sDecl (asV Value.int (kI (ii 0)))) (sSeq (sBlk 3 (sSeq (sDecl (asV Value.int (kI (ii 0)))) (sWh (Lc_Plan_weigh_1) (Lb_Plan_weigh_1) Lu_Plan_weigh_1))) (sSeq (sIf (cOr (o2 (fun x y => decide (x > y)) (vI 2) (gI 7 12 (vR 0))) (cAnd (cAnd (o1 (fun x => decide (x ≠ 0)) (gI 7 0 (vR 0))) (o2 (fun x y => decide (x = y)) (vI 1) (gI 7 1 (vR 0)))) (o2 (fun x y => decide (x ≥ y)) (vI 2) (gI 7 2 (vR 0))))) (sRetV) (sSkip)) (sSeq (sPutZ 7 0 (vR 0) (kI (ii 1))) (sSeq (sPut 7 1 (vR 0) (asV Value.int (vI 1))) (sSeq (sPut 7 2 (vR 0) (asV Value.int (vI 2))) (sSeq (sCpy (gR 7 10 (vR 0)) (kI (ii 0)) (gR 7 3 (vR 0)) (kI (ii 0)) (kI (ii 5))) (sRetV)))))))
theorem mf_Plan_weigh : Mf y_Plan_weigh prog_7_method_5_code 6 none 1 := ⟨tw_1074, tw_129, by decide +kernel⟩
noncomputable def D_Plan_weigh : Dn := runS [1, 1] F_Plan_weigh
theorem ok_Plan_weigh : MOK y_Plan_weigh prog_7_method_5_code 6 none 1 0 0 D_Plan_weigh := MOK.of (by decide) (by decide) (show SO Y_Plan_weigh [(0, 1), (1, 1)] [(0, 1), (1, 1), (2, 1)] 0 138 (([], 0), ([], 0)) F_Plan_weigh from
  (s_seq (sl1 := [(0, 1), (1, 1), (2, 1)]) (p1 := 2) (s_decl (p1 := 1) (e_iconst d_Plan_weigh_0 (by decide)) (t_istore_n d_Plan_weigh_1 rfl (by decide)) rfl) (s_seq (sl1 := [(0, 1), (1, 1), (2, 1)]) (p1 := 76) (s_blk (sl1 := [(0, 1), (1, 1), (2, 1), (3, 1)]) (s_seq (sl1 := [(0, 1), (1, 1), (2, 1), (3, 1)]) (p1 := 4) (s_decl (p1 := 3) (e_iconst d_Plan_weigh_2 (by decide)) (t_istore_n d_Plan_weigh_3 rfl (by decide)) rfl) (s_for (pt := 15) (pu := 70) (pf := 76) (pg := 0) (c_icmp_geF (p1 := 5) (p2 := 12) (tg := 76) (e_iload_n (k0 := 3) d_Plan_weigh_4 rfl rfl) (e_gI (k0 := 1) (p1 := 9) cf_2 (e_gR (k0 := 4) (p1 := 6) cf_7 (e_aload_n (k0 := 0) d_Plan_weigh_5 rfl rfl) (by decide) tw_393 d_Plan_weigh_6) (by decide) tw_205 d_Plan_weigh_9) d_Plan_weigh_12 rfl) (s_blk (sl1 := [(0, 1), (1, 1), (2, 1), (3, 1), (4, 1), (5, 1)]) (s_seq (sl1 := [(0, 1), (1, 1), (2, 1), (3, 1), (4, 1)]) (p1 := 30) (s_decl (p1 := 28) (e_isub (p1 := 26) (p2 := 27) (e_iadd (p1 := 19) (p2 := 25) (e_imul (p1 := 16) (p2 := 18) (e_iload_n (k0 := 3) d_Plan_weigh_15 rfl rfl) (e_bipush d_Plan_weigh_16 (by decide)) d_Plan_weigh_18) (e_iald (p1 := 23) (p2 := 24) (e_gR (k0 := 10) (p1 := 20) cf_7 (e_aload_n (k0 := 0) d_Plan_weigh_19 rfl rfl) (by decide) tw_399 d_Plan_weigh_20) (e_iload_n (k0 := 3) d_Plan_weigh_23 rfl rfl) d_Plan_weigh_24) d_Plan_weigh_25) (e_iconst d_Plan_weigh_26 (by decide)) d_Plan_weigh_27) (t_istore d_Plan_weigh_28 (by decide)) rfl) (s_seq (sl1 := [(0, 1), (1, 1), (2, 1), (3, 1), (4, 1), (5, 1)]) (p1 := 44) (s_decl (p1 := 42) (e_iald (p1 := 34) (p2 := 41) (e_gR (k0 := 11) (p1 := 31) cf_7 (e_aload_n (k0 := 0) d_Plan_weigh_30 rfl rfl) (by decide) tw_400 d_Plan_weigh_31) (e_iald (p1 := 38) (p2 := 40) (e_gR (k0 := 7) (p1 := 35) cf_7 (e_aload_n (k0 := 0) d_Plan_weigh_34 rfl rfl) (by decide) tw_396 d_Plan_weigh_35) (e_iload (k0 := 4) d_Plan_weigh_38 rfl) d_Plan_weigh_40) d_Plan_weigh_41) (t_istore d_Plan_weigh_42 (by decide)) rfl) (s_set (k0 := 2) (p1 := 69) (e_iadd (p1 := 45) (p2 := 68) (e_iload_n (k0 := 2) d_Plan_weigh_44 rfl rfl) (e_ite (pt := 50) (p1 := 64) (pf := 67) (c_if_leF (p1 := 47) (tg := 67) (e_iload (k0 := 5) d_Plan_weigh_45 rfl) d_Plan_weigh_47 rfl) (e_iald (p1 := 54) (p2 := 63) (e_gR (k0 := 9) (p1 := 51) cf_7 (e_aload_n (k0 := 0) d_Plan_weigh_50 rfl rfl) (by decide) tw_398 d_Plan_weigh_51) (e_isub (p1 := 61) (p2 := 62) (e_iadd (p1 := 58) (p2 := 60) (e_imul (p1 := 56) (p2 := 57) (e_iload (k0 := 4) d_Plan_weigh_54 rfl) (e_iconst d_Plan_weigh_56 (by decide)) d_Plan_weigh_57) (e_iload (k0 := 5) d_Plan_weigh_58 rfl) d_Plan_weigh_60) (e_iconst d_Plan_weigh_61 (by decide)) d_Plan_weigh_62) d_Plan_weigh_63) d_Plan_weigh_64 rfl (e_iconst d_Plan_weigh_67 (by decide))) d_Plan_weigh_68) (t_istore_n d_Plan_weigh_69 rfl (by decide)) rfl rfl))) rfl) (s_goto (p1 := 73) (s_inc (k0 := 3) d_Plan_weigh_70 rfl rfl (Nat.le_of_ble_eq_true rfl) rfl) d_Plan_weigh_73 rfl))) rfl) (s_seq (sl1 := [(0, 1), (1, 1), (2, 1)]) (p1 := 108) (s_if (pt := 107) (pf := 108) (c_or (p1 := 84) (c_icmp_gtT (p1 := 77) (p2 := 81) (tg := 107) (e_iload_n (k0 := 2) d_Plan_weigh_76 rfl rfl) (e_gI (k0 := 12) (p1 := 78) cf_7 (e_aload_n (k0 := 0) d_Plan_weigh_77 rfl rfl) (by decide) tw_401 d_Plan_weigh_78) d_Plan_weigh_81 rfl) (c_and (p1 := 99) (c_and (p1 := 91) (c_if_eqF (p1 := 88) (tg := 108) (e_gI (k0 := 0) (p1 := 85) cf_7 (e_aload_n (k0 := 0) d_Plan_weigh_84 rfl rfl) (by decide) tw_385 d_Plan_weigh_85) d_Plan_weigh_88 rfl) (c_icmp_neF (p1 := 92) (p2 := 96) (tg := 108) (e_iload_n (k0 := 1) d_Plan_weigh_91 rfl rfl) (e_gI (k0 := 1) (p1 := 93) cf_7 (e_aload_n (k0 := 0) d_Plan_weigh_92 rfl rfl) (by decide) tw_387 d_Plan_weigh_93) d_Plan_weigh_96 rfl)) (c_icmp_ltF (p1 := 100) (p2 := 104) (tg := 108) (e_iload_n (k0 := 2) d_Plan_weigh_99 rfl rfl) (e_gI (k0 := 2) (p1 := 101) cf_7 (e_aload_n (k0 := 0) d_Plan_weigh_100 rfl rfl) (by decide) tw_389 d_Plan_weigh_101) d_Plan_weigh_104 rfl))) (s_retV rfl d_Plan_weigh_107) s_skip) (s_seq (sl1 := [(0, 1), (1, 1), (2, 1)]) (p1 := 113) (s_putZ (k0 := 0) (p1 := 109) (p2 := 110) cf_7 (e_aload_n (k0 := 0) d_Plan_weigh_108 rfl rfl) (e_iconst d_Plan_weigh_109 (by decide)) (by decide) rfl tw_385 rfl d_Plan_weigh_110) (s_seq (sl1 := [(0, 1), (1, 1), (2, 1)]) (p1 := 118) (s_put (k0 := 1) (p1 := 114) (p2 := 115) cf_7 (e_aload_n (k0 := 0) d_Plan_weigh_113 rfl rfl) (e_iload_n (k0 := 1) d_Plan_weigh_114 rfl rfl) (by decide) fk_i tw_387 (Or.inl rfl) d_Plan_weigh_115) (s_seq (sl1 := [(0, 1), (1, 1), (2, 1)]) (p1 := 123) (s_put (k0 := 2) (p1 := 119) (p2 := 120) cf_7 (e_aload_n (k0 := 0) d_Plan_weigh_118 rfl rfl) (e_iload_n (k0 := 2) d_Plan_weigh_119 rfl rfl) (by decide) fk_i tw_389 (Or.inl rfl) d_Plan_weigh_120) (s_seq (sl1 := [(0, 1), (1, 1), (2, 1)]) (p1 := 137) (s_cpy (p1 := 127) (p2 := 128) (p3 := 132) (p4 := 133) (p5 := 134) (e_gR (k0 := 10) (p1 := 124) cf_7 (e_aload_n (k0 := 0) d_Plan_weigh_123 rfl rfl) (by decide) tw_399 d_Plan_weigh_124) (e_iconst d_Plan_weigh_127 (by decide)) (e_gR (k0 := 3) (p1 := 129) cf_7 (e_aload_n (k0 := 0) d_Plan_weigh_128 rfl rfl) (by decide) tw_391 d_Plan_weigh_129) (e_iconst d_Plan_weigh_132 (by decide)) (e_iconst d_Plan_weigh_133 (by decide)) ⟨tw_1075, tw_854, tw_853, tw_141⟩ (by decide) d_Plan_weigh_134) (s_retV rfl d_Plan_weigh_137)))))))))
abbrev y_Plan_tryFrom : MethodName := ⟨"BlinkerCross$Plan", "tryFrom", "(II)V"⟩
theorem mf_Plan_tryFrom : Mf y_Plan_tryFrom prog_7_method_4_code 5 none 2 := ⟨tw_1070, tw_129, by decide +kernel⟩
/-! BlinkerCross$Plan.tryFrom(II)V -/
abbrev Y_Plan_tryFrom (lv : Nat) : Yt := (prog_7_method_4_code, 5, "BlinkerCross$Plan", lv, none, "tryFrom")
theorem d_Plan_tryFrom_0 : decode prog_7_method_4_code 0 = .ok (.aload_n 0, 1) := by decide +kernel
theorem d_Plan_tryFrom_1 : decode prog_7_method_4_code 1 = .ok (.getfield 57, 3) := by decide +kernel
theorem d_Plan_tryFrom_4 : decode prog_7_method_4_code 4 = .ok (.ifCond .eq 12, 3) := by decide +kernel
theorem d_Plan_tryFrom_7 : decode prog_7_method_4_code 7 = .ok (.iload_n 2, 1) := by decide +kernel
theorem d_Plan_tryFrom_8 : decode prog_7_method_4_code 8 = .ok (.aload_n 0, 1) := by decide +kernel
theorem d_Plan_tryFrom_9 : decode prog_7_method_4_code 9 = .ok (.getfield 61, 3) := by decide +kernel
theorem d_Plan_tryFrom_12 : decode prog_7_method_4_code 12 = .ok (.if_icmp .le 4, 3) := by decide +kernel
theorem d_Plan_tryFrom_15 : decode prog_7_method_4_code 15 = .ok (.return_, 1) := by decide +kernel
theorem d_Plan_tryFrom_16 : decode prog_7_method_4_code 16 = .ok (.iload_n 1, 1) := by decide +kernel
theorem d_Plan_tryFrom_17 : decode prog_7_method_4_code 17 = .ok (.aload_n 0, 1) := by decide +kernel
theorem d_Plan_tryFrom_18 : decode prog_7_method_4_code 18 = .ok (.getfield 37, 3) := by decide +kernel
theorem d_Plan_tryFrom_21 : decode prog_7_method_4_code 21 = .ok (.getfield 71, 3) := by decide +kernel
theorem d_Plan_tryFrom_24 : decode prog_7_method_4_code 24 = .ok (.if_icmp .lt 9, 3) := by decide +kernel
theorem d_Plan_tryFrom_27 : decode prog_7_method_4_code 27 = .ok (.aload_n 0, 1) := by decide +kernel
theorem d_Plan_tryFrom_28 : decode prog_7_method_4_code 28 = .ok (.iload_n 2, 1) := by decide +kernel
theorem d_Plan_tryFrom_29 : decode prog_7_method_4_code 29 = .ok (.invokevirtual 98, 3) := by decide +kernel
theorem d_Plan_tryFrom_32 : decode prog_7_method_4_code 32 = .ok (.return_, 1) := by decide +kernel
theorem d_Plan_tryFrom_33 : decode prog_7_method_4_code 33 = .ok (.iconst 1, 1) := by decide +kernel
theorem d_Plan_tryFrom_34 : decode prog_7_method_4_code 34 = .ok (.istore_n 3, 1) := by decide +kernel
theorem d_Plan_tryFrom_35 : decode prog_7_method_4_code 35 = .ok (.iload_n 3, 1) := by decide +kernel
theorem d_Plan_tryFrom_36 : decode prog_7_method_4_code 36 = .ok (.aload_n 0, 1) := by decide +kernel
theorem d_Plan_tryFrom_37 : decode prog_7_method_4_code 37 = .ok (.getfield 37, 3) := by decide +kernel
theorem d_Plan_tryFrom_40 : decode prog_7_method_4_code 40 = .ok (.getfield 76, 3) := by decide +kernel
theorem d_Plan_tryFrom_43 : decode prog_7_method_4_code 43 = .ok (.if_icmp .gt 74, 3) := by decide +kernel
theorem d_Plan_tryFrom_46 : decode prog_7_method_4_code 46 = .ok (.iload_n 1, 1) := by decide +kernel
theorem d_Plan_tryFrom_47 : decode prog_7_method_4_code 47 = .ok (.bipush 6, 2) := by decide +kernel
theorem d_Plan_tryFrom_49 : decode prog_7_method_4_code 49 = .ok (.imul, 1) := by decide +kernel
theorem d_Plan_tryFrom_50 : decode prog_7_method_4_code 50 = .ok (.iload_n 3, 1) := by decide +kernel
theorem d_Plan_tryFrom_51 : decode prog_7_method_4_code 51 = .ok (.iadd, 1) := by decide +kernel
theorem d_Plan_tryFrom_52 : decode prog_7_method_4_code 52 = .ok (.iconst 1, 1) := by decide +kernel
theorem d_Plan_tryFrom_53 : decode prog_7_method_4_code 53 = .ok (.isub, 1) := by decide +kernel
theorem d_Plan_tryFrom_54 : decode prog_7_method_4_code 54 = .ok (.istore 4, 2) := by decide +kernel
theorem d_Plan_tryFrom_56 : decode prog_7_method_4_code 56 = .ok (.aload_n 0, 1) := by decide +kernel
theorem d_Plan_tryFrom_57 : decode prog_7_method_4_code 57 = .ok (.getfield 24, 3) := by decide +kernel
theorem d_Plan_tryFrom_60 : decode prog_7_method_4_code 60 = .ok (.iload_n 1, 1) := by decide +kernel
theorem d_Plan_tryFrom_61 : decode prog_7_method_4_code 61 = .ok (.iload_n 3, 1) := by decide +kernel
theorem d_Plan_tryFrom_62 : decode prog_7_method_4_code 62 = .ok (.iastore, 1) := by decide +kernel
theorem d_Plan_tryFrom_63 : decode prog_7_method_4_code 63 = .ok (.aload_n 0, 1) := by decide +kernel
theorem d_Plan_tryFrom_64 : decode prog_7_method_4_code 64 = .ok (.getfield 27, 3) := by decide +kernel
theorem d_Plan_tryFrom_67 : decode prog_7_method_4_code 67 = .ok (.aload_n 0, 1) := by decide +kernel
theorem d_Plan_tryFrom_68 : decode prog_7_method_4_code 68 = .ok (.getfield 15, 3) := by decide +kernel
theorem d_Plan_tryFrom_71 : decode prog_7_method_4_code 71 = .ok (.iload 4, 2) := by decide +kernel
theorem d_Plan_tryFrom_73 : decode prog_7_method_4_code 73 = .ok (.iaload, 1) := by decide +kernel
theorem d_Plan_tryFrom_74 : decode prog_7_method_4_code 74 = .ok (.dup2, 1) := by decide +kernel
theorem d_Plan_tryFrom_75 : decode prog_7_method_4_code 75 = .ok (.iaload, 1) := by decide +kernel
theorem d_Plan_tryFrom_76 : decode prog_7_method_4_code 76 = .ok (.iconst 1, 1) := by decide +kernel
theorem d_Plan_tryFrom_77 : decode prog_7_method_4_code 77 = .ok (.iadd, 1) := by decide +kernel
theorem d_Plan_tryFrom_78 : decode prog_7_method_4_code 78 = .ok (.iastore, 1) := by decide +kernel
theorem d_Plan_tryFrom_79 : decode prog_7_method_4_code 79 = .ok (.aload_n 0, 1) := by decide +kernel
theorem d_Plan_tryFrom_80 : decode prog_7_method_4_code 80 = .ok (.iload_n 1, 1) := by decide +kernel
theorem d_Plan_tryFrom_81 : decode prog_7_method_4_code 81 = .ok (.iconst 1, 1) := by decide +kernel
theorem d_Plan_tryFrom_82 : decode prog_7_method_4_code 82 = .ok (.iadd, 1) := by decide +kernel
theorem d_Plan_tryFrom_83 : decode prog_7_method_4_code 83 = .ok (.iload_n 2, 1) := by decide +kernel
theorem d_Plan_tryFrom_84 : decode prog_7_method_4_code 84 = .ok (.aload_n 0, 1) := by decide +kernel
theorem d_Plan_tryFrom_85 : decode prog_7_method_4_code 85 = .ok (.getfield 18, 3) := by decide +kernel
theorem d_Plan_tryFrom_88 : decode prog_7_method_4_code 88 = .ok (.iload 4, 2) := by decide +kernel
theorem d_Plan_tryFrom_90 : decode prog_7_method_4_code 90 = .ok (.iaload, 1) := by decide +kernel
theorem d_Plan_tryFrom_91 : decode prog_7_method_4_code 91 = .ok (.iadd, 1) := by decide +kernel
theorem d_Plan_tryFrom_92 : decode prog_7_method_4_code 92 = .ok (.invokevirtual 67, 3) := by decide +kernel
theorem d_Plan_tryFrom_95 : decode prog_7_method_4_code 95 = .ok (.aload_n 0, 1) := by decide +kernel
theorem d_Plan_tryFrom_96 : decode prog_7_method_4_code 96 = .ok (.getfield 27, 3) := by decide +kernel
theorem d_Plan_tryFrom_99 : decode prog_7_method_4_code 99 = .ok (.aload_n 0, 1) := by decide +kernel
theorem d_Plan_tryFrom_100 : decode prog_7_method_4_code 100 = .ok (.getfield 15, 3) := by decide +kernel
theorem d_Plan_tryFrom_103 : decode prog_7_method_4_code 103 = .ok (.iload 4, 2) := by decide +kernel
theorem d_Plan_tryFrom_105 : decode prog_7_method_4_code 105 = .ok (.iaload, 1) := by decide +kernel
theorem d_Plan_tryFrom_106 : decode prog_7_method_4_code 106 = .ok (.dup2, 1) := by decide +kernel
theorem d_Plan_tryFrom_107 : decode prog_7_method_4_code 107 = .ok (.iaload, 1) := by decide +kernel
theorem d_Plan_tryFrom_108 : decode prog_7_method_4_code 108 = .ok (.iconst 1, 1) := by decide +kernel
theorem d_Plan_tryFrom_109 : decode prog_7_method_4_code 109 = .ok (.isub, 1) := by decide +kernel
theorem d_Plan_tryFrom_110 : decode prog_7_method_4_code 110 = .ok (.iastore, 1) := by decide +kernel
theorem d_Plan_tryFrom_111 : decode prog_7_method_4_code 111 = .ok (.iinc 3 1, 3) := by decide +kernel
theorem d_Plan_tryFrom_114 : decode prog_7_method_4_code 114 = .ok (.goto (-79), 3) := by decide +kernel
theorem d_Plan_tryFrom_117 : decode prog_7_method_4_code 117 = .ok (.return_, 1) := by decide +kernel
noncomputable def Lc_Plan_tryFrom_1 (R : Dn) : Xp Bool := o2 (fun x y => decide (x ≤ y)) (vI 3) (gI 2 0 (gR 7 4 (vR 0)))
noncomputable def Lb_Plan_tryFrom_1 (R : Dn) : Sm := sBlk 4 (sSeq (sDecl (asV Value.int (o2 (fun x y => x - y) (o2 (fun x y => x + y) (o2 (fun x y => x * y) (vI 1) (kI (ii 6))) (vI 3)) (kI (ii 1))))) (sSeq (sAst 0 (gR 7 10 (vR 0)) (vI 1) (vI 3)) (sSeq (sAop 0 (gR 7 11 (vR 0)) (aI 0 (gR 7 7 (vR 0)) (vI 4)) (fun x y => x + y) (kI (ii 1))) (sSeq (sCall (mV 7 R) [asV Value.ref (vR 0), asV Value.int (o2 (fun x y => x + y) (vI 1) (kI (ii 1))), asV Value.int (o2 (fun x y => x + y) (vI 2) (aI 0 (gR 7 8 (vR 0)) (vI 4)))]) (sAop 0 (gR 7 11 (vR 0)) (aI 0 (gR 7 7 (vR 0)) (vI 4)) (fun x y => x - y) (kI (ii 1)))))))
noncomputable def Lu_Plan_tryFrom_1 : Sm := sInc 3 (ii 1)
noncomputable def F_Plan_tryFrom (R : Dn) : Sm := sSeq (sIf (cAnd (o1 (fun x => decide (x ≠ 0)) (gI 7 0 (vR 0))) (o2 (fun x y => decide (x > y)) (vI 2) (gI 7 1 (vR 0)))) (sRetV) (sSkip)) (sSeq (sIf (o2 (fun x y => decide (x ≥ y)) (vI 1) (gI 2 1 (gR 7 4 (vR 0)))) (sSeq (sCall (mV 7 D_Plan_weigh) [asV Value.ref (vR 0), asV Value.int (vI 2)]) (sRetV)) (sSkip)) (sSeq (sBlk 3 (sSeq (sDecl (asV Value.int (kI (ii 1)))) (sWh (Lc_Plan_tryFrom_1 R) (Lb_Plan_tryFrom_1 R) Lu_Plan_tryFrom_1))) (sRetV)))
theorem okR_Plan_tryFrom {R : Dn} {lr lv : Nat} (hR : MOK y_Plan_tryFrom prog_7_method_4_code 5 none lr 0 0 R) (hl : lr + 1 ≤ lv) (hb : 2 ≤ lv) : MOK y_Plan_tryFrom prog_7_method_4_code 5 none lv 0 0 (runS [1, 1, 1] (F_Plan_tryFrom R)) := MOK.of (by decide) (by decide) (show SO (Y_Plan_tryFrom lv) [(0, 1), (1, 1), (2, 1)] [(0, 1), (1, 1), (2, 1)] 0 118 (([], 0), ([], 0)) (F_Plan_tryFrom R) from
  (s_seq (sl1 := [(0, 1), (1, 1), (2, 1)]) (p1 := 16) (s_if (pt := 15) (pf := 16) (c_and (p1 := 7) (c_if_eqF (p1 := 4) (tg := 16) (e_gI (k0 := 0) (p1 := 1) cf_7 (e_aload_n (k0 := 0) d_Plan_tryFrom_0 rfl rfl) (by decide) tw_385 d_Plan_tryFrom_1) d_Plan_tryFrom_4 rfl) (c_icmp_leF (p1 := 8) (p2 := 12) (tg := 16) (e_iload_n (k0 := 2) d_Plan_tryFrom_7 rfl rfl) (e_gI (k0 := 1) (p1 := 9) cf_7 (e_aload_n (k0 := 0) d_Plan_tryFrom_8 rfl rfl) (by decide) tw_387 d_Plan_tryFrom_9) d_Plan_tryFrom_12 rfl)) (s_retV rfl d_Plan_tryFrom_15) s_skip) (s_seq (sl1 := [(0, 1), (1, 1), (2, 1)]) (p1 := 33) (s_if (pt := 27) (pf := 33) (c_icmp_ltF (p1 := 17) (p2 := 24) (tg := 33) (e_iload_n (k0 := 1) d_Plan_tryFrom_16 rfl rfl) (e_gI (k0 := 1) (p1 := 21) cf_2 (e_gR (k0 := 4) (p1 := 18) cf_7 (e_aload_n (k0 := 0) d_Plan_tryFrom_17 rfl rfl) (by decide) tw_393 d_Plan_tryFrom_18) (by decide) tw_205 d_Plan_tryFrom_21) d_Plan_tryFrom_24 rfl) (s_seq (sl1 := [(0, 1), (1, 1), (2, 1)]) (p1 := 32) (s_call (p1 := 29) (a_cons (ι := Value.ref) (k0 := 1) (p1 := 28) (fun _ => rfl) (e_aload_n (k0 := 0) d_Plan_tryFrom_27 rfl rfl) (a_cons (ι := Value.int) (k0 := 1) (p1 := 29) (fun _ => rfl) (e_iload_n (k0 := 2) d_Plan_tryFrom_28 rfl rfl) a_nil)) (k_virt ok_Plan_weigh mf_Plan_weigh ⟨tw_1073, tw_30⟩ rfl tw_1071 d_Plan_tryFrom_29 (by show _ ≤ lv; omega) (by decide) (by decide))) (s_retV rfl d_Plan_tryFrom_32)) s_skip) (s_seq (sl1 := [(0, 1), (1, 1), (2, 1)]) (p1 := 117) (s_blk (sl1 := [(0, 1), (1, 1), (2, 1), (3, 1)]) (s_seq (sl1 := [(0, 1), (1, 1), (2, 1), (3, 1)]) (p1 := 35) (s_decl (p1 := 34) (e_iconst d_Plan_tryFrom_33 (by decide)) (t_istore_n d_Plan_tryFrom_34 rfl (Nat.le_of_ble_eq_true rfl)) rfl) (s_for (pt := 46) (pu := 111) (pf := 117) (pg := 0) (c_icmp_gtF (p1 := 36) (p2 := 43) (tg := 117) (e_iload_n (k0 := 3) d_Plan_tryFrom_35 rfl rfl) (e_gI (k0 := 0) (p1 := 40) cf_2 (e_gR (k0 := 4) (p1 := 37) cf_7 (e_aload_n (k0 := 0) d_Plan_tryFrom_36 rfl rfl) (by decide) tw_393 d_Plan_tryFrom_37) (by decide) tw_198 d_Plan_tryFrom_40) d_Plan_tryFrom_43 rfl) (s_blk (sl1 := [(0, 1), (1, 1), (2, 1), (3, 1), (4, 1)]) (s_seq (sl1 := [(0, 1), (1, 1), (2, 1), (3, 1), (4, 1)]) (p1 := 56) (s_decl (p1 := 54) (e_isub (p1 := 52) (p2 := 53) (e_iadd (p1 := 50) (p2 := 51) (e_imul (p1 := 47) (p2 := 49) (e_iload_n (k0 := 1) d_Plan_tryFrom_46 rfl rfl) (e_bipush d_Plan_tryFrom_47 (by decide)) d_Plan_tryFrom_49) (e_iload_n (k0 := 3) d_Plan_tryFrom_50 rfl rfl) d_Plan_tryFrom_51) (e_iconst d_Plan_tryFrom_52 (by decide)) d_Plan_tryFrom_53) (t_istore d_Plan_tryFrom_54 (Nat.le_of_ble_eq_true rfl)) rfl) (s_seq (sl1 := [(0, 1), (1, 1), (2, 1), (3, 1), (4, 1)]) (p1 := 63) (s_ast (p1 := 60) (p2 := 61) (p3 := 62) (e_gR (k0 := 10) (p1 := 57) cf_7 (e_aload_n (k0 := 0) d_Plan_tryFrom_56 rfl rfl) (by decide) tw_399 d_Plan_tryFrom_57) (e_iload_n (k0 := 1) d_Plan_tryFrom_60 rfl rfl) (e_iload_n (k0 := 3) d_Plan_tryFrom_61 rfl rfl) (as_i d_Plan_tryFrom_62)) (s_seq (sl1 := [(0, 1), (1, 1), (2, 1), (3, 1), (4, 1)]) (p1 := 79) (s_aop (p1 := 67) (p2 := 74) (p3 := 77) (e_gR (k0 := 11) (p1 := 64) cf_7 (e_aload_n (k0 := 0) d_Plan_tryFrom_63 rfl rfl) (by decide) tw_400 d_Plan_tryFrom_64) (e_iald (p1 := 71) (p2 := 73) (e_gR (k0 := 7) (p1 := 68) cf_7 (e_aload_n (k0 := 0) d_Plan_tryFrom_67 rfl rfl) (by decide) tw_396 d_Plan_tryFrom_68) (e_iload (k0 := 4) d_Plan_tryFrom_71 rfl) d_Plan_tryFrom_73) d_Plan_tryFrom_74 (ad_i d_Plan_tryFrom_75) (e_iconst d_Plan_tryFrom_76 (by decide)) (op_iadd d_Plan_tryFrom_77) (as_i d_Plan_tryFrom_78)) (s_seq (sl1 := [(0, 1), (1, 1), (2, 1), (3, 1), (4, 1)]) (p1 := 95) (s_call (p1 := 92) (a_cons (ι := Value.ref) (k0 := 1) (p1 := 80) (fun _ => rfl) (e_aload_n (k0 := 0) d_Plan_tryFrom_79 rfl rfl) (a_cons (ι := Value.int) (k0 := 1) (p1 := 83) (fun _ => rfl) (e_iadd (p1 := 81) (p2 := 82) (e_iload_n (k0 := 1) d_Plan_tryFrom_80 rfl rfl) (e_iconst d_Plan_tryFrom_81 (by decide)) d_Plan_tryFrom_82) (a_cons (ι := Value.int) (k0 := 1) (p1 := 92) (fun _ => rfl) (e_iadd (p1 := 84) (p2 := 91) (e_iload_n (k0 := 2) d_Plan_tryFrom_83 rfl rfl) (e_iald (p1 := 88) (p2 := 90) (e_gR (k0 := 8) (p1 := 85) cf_7 (e_aload_n (k0 := 0) d_Plan_tryFrom_84 rfl rfl) (by decide) tw_397 d_Plan_tryFrom_85) (e_iload (k0 := 4) d_Plan_tryFrom_88 rfl) d_Plan_tryFrom_90) d_Plan_tryFrom_91) a_nil))) (k_virt hR mf_Plan_tryFrom ⟨tw_1069, tw_29⟩ rfl tw_1067 d_Plan_tryFrom_92 (by show _ ≤ lv; omega) (by decide) (by decide))) (s_aop (p1 := 99) (p2 := 106) (p3 := 109) (e_gR (k0 := 11) (p1 := 96) cf_7 (e_aload_n (k0 := 0) d_Plan_tryFrom_95 rfl rfl) (by decide) tw_400 d_Plan_tryFrom_96) (e_iald (p1 := 103) (p2 := 105) (e_gR (k0 := 7) (p1 := 100) cf_7 (e_aload_n (k0 := 0) d_Plan_tryFrom_99 rfl rfl) (by decide) tw_396 d_Plan_tryFrom_100) (e_iload (k0 := 4) d_Plan_tryFrom_103 rfl) d_Plan_tryFrom_105) d_Plan_tryFrom_106 (ad_i d_Plan_tryFrom_107) (e_iconst d_Plan_tryFrom_108 (by decide)) (op_isub d_Plan_tryFrom_109) (as_i d_Plan_tryFrom_110)))))) rfl) (s_goto (p1 := 114) (s_inc (k0 := 3) d_Plan_tryFrom_111 rfl rfl (Nat.le_of_ble_eq_true rfl) rfl) d_Plan_tryFrom_114 rfl))) rfl) (s_retV rfl d_Plan_tryFrom_117)))))
noncomputable def U_Plan_tryFrom : Nat → Dn
  | 0 => fun _ _ => none
  | n + 1 => runS [1, 1, 1] (F_Plan_tryFrom (U_Plan_tryFrom n))
theorem okU_Plan_tryFrom : ∀ n, MOK y_Plan_tryFrom prog_7_method_4_code 5 none (2 + n) 0 0 (U_Plan_tryFrom n)
  | 0 => fun _ _ _ _ _ _ _ _ _ _ _ _ h => by cases h
  | n + 1 => okR_Plan_tryFrom (okU_Plan_tryFrom n) (by omega) (by omega)
noncomputable def D_Plan_tryFrom : Dn := U_Plan_tryFrom 6
theorem ok_Plan_tryFrom : MOK y_Plan_tryFrom prog_7_method_4_code 5 none 8 0 0 D_Plan_tryFrom := okU_Plan_tryFrom 6
/-! BlinkerCross$Plan.make(I)V -/
abbrev y_Plan_make : MethodName := ⟨"BlinkerCross$Plan", "make", "(I)V"⟩
abbrev Y_Plan_make : Yt := (prog_7_method_2_code, 3, "BlinkerCross$Plan", 9, none, "make")
theorem d_Plan_make_0 : decode prog_7_method_2_code 0 = .ok (.aload_n 0, 1) := by decide +kernel
theorem d_Plan_make_1 : decode prog_7_method_2_code 1 = .ok (.getfield 34, 3) := by decide +kernel
theorem d_Plan_make_4 : decode prog_7_method_2_code 4 = .ok (.aload_n 0, 1) := by decide +kernel
theorem d_Plan_make_5 : decode prog_7_method_2_code 5 = .ok (.getfield 41, 3) := by decide +kernel
theorem d_Plan_make_8 : decode prog_7_method_2_code 8 = .ok (.getfield 49, 3) := by decide +kernel
theorem d_Plan_make_11 : decode prog_7_method_2_code 11 = .ok (.if_icmp .ne 12, 3) := by decide +kernel
theorem d_Plan_make_14 : decode prog_7_method_2_code 14 = .ok (.aload_n 0, 1) := by decide +kernel
theorem d_Plan_make_15 : decode prog_7_method_2_code 15 = .ok (.getfield 30, 3) := by decide +kernel
theorem d_Plan_make_18 : decode prog_7_method_2_code 18 = .ok (.iload_n 1, 1) := by decide +kernel
theorem d_Plan_make_19 : decode prog_7_method_2_code 19 = .ok (.if_icmp .ne 4, 3) := by decide +kernel
theorem d_Plan_make_22 : decode prog_7_method_2_code 22 = .ok (.return_, 1) := by decide +kernel
theorem d_Plan_make_23 : decode prog_7_method_2_code 23 = .ok (.aload_n 0, 1) := by decide +kernel
theorem d_Plan_make_24 : decode prog_7_method_2_code 24 = .ok (.getfield 34, 3) := by decide +kernel
theorem d_Plan_make_27 : decode prog_7_method_2_code 27 = .ok (.aload_n 0, 1) := by decide +kernel
theorem d_Plan_make_28 : decode prog_7_method_2_code 28 = .ok (.getfield 41, 3) := by decide +kernel
theorem d_Plan_make_31 : decode prog_7_method_2_code 31 = .ok (.getfield 49, 3) := by decide +kernel
theorem d_Plan_make_34 : decode prog_7_method_2_code 34 = .ok (.if_icmp .eq 7, 3) := by decide +kernel
theorem d_Plan_make_37 : decode prog_7_method_2_code 37 = .ok (.aload_n 0, 1) := by decide +kernel
theorem d_Plan_make_38 : decode prog_7_method_2_code 38 = .ok (.invokevirtual 54, 3) := by decide +kernel
theorem d_Plan_make_41 : decode prog_7_method_2_code 41 = .ok (.aload_n 0, 1) := by decide +kernel
theorem d_Plan_make_42 : decode prog_7_method_2_code 42 = .ok (.aload_n 0, 1) := by decide +kernel
theorem d_Plan_make_43 : decode prog_7_method_2_code 43 = .ok (.getfield 41, 3) := by decide +kernel
theorem d_Plan_make_46 : decode prog_7_method_2_code 46 = .ok (.getfield 49, 3) := by decide +kernel
theorem d_Plan_make_49 : decode prog_7_method_2_code 49 = .ok (.putfield 34, 3) := by decide +kernel
theorem d_Plan_make_52 : decode prog_7_method_2_code 52 = .ok (.aload_n 0, 1) := by decide +kernel
theorem d_Plan_make_53 : decode prog_7_method_2_code 53 = .ok (.iload_n 1, 1) := by decide +kernel
theorem d_Plan_make_54 : decode prog_7_method_2_code 54 = .ok (.putfield 30, 3) := by decide +kernel
theorem d_Plan_make_57 : decode prog_7_method_2_code 57 = .ok (.aload_n 0, 1) := by decide +kernel
theorem d_Plan_make_58 : decode prog_7_method_2_code 58 = .ok (.iconst 0, 1) := by decide +kernel
theorem d_Plan_make_59 : decode prog_7_method_2_code 59 = .ok (.putfield 57, 3) := by decide +kernel
theorem d_Plan_make_62 : decode prog_7_method_2_code 62 = .ok (.aload_n 0, 1) := by decide +kernel
theorem d_Plan_make_63 : decode prog_7_method_2_code 63 = .ok (.iconst 0, 1) := by decide +kernel
theorem d_Plan_make_64 : decode prog_7_method_2_code 64 = .ok (.putfield 61, 3) := by decide +kernel
theorem d_Plan_make_67 : decode prog_7_method_2_code 67 = .ok (.aload_n 0, 1) := by decide +kernel
theorem d_Plan_make_68 : decode prog_7_method_2_code 68 = .ok (.iconst 0, 1) := by decide +kernel
theorem d_Plan_make_69 : decode prog_7_method_2_code 69 = .ok (.putfield 64, 3) := by decide +kernel
theorem d_Plan_make_72 : decode prog_7_method_2_code 72 = .ok (.iconst 0, 1) := by decide +kernel
theorem d_Plan_make_73 : decode prog_7_method_2_code 73 = .ok (.istore_n 2, 1) := by decide +kernel
theorem d_Plan_make_74 : decode prog_7_method_2_code 74 = .ok (.iload_n 2, 1) := by decide +kernel
theorem d_Plan_make_75 : decode prog_7_method_2_code 75 = .ok (.bipush 6, 2) := by decide +kernel
theorem d_Plan_make_77 : decode prog_7_method_2_code 77 = .ok (.if_icmp .ge 16, 3) := by decide +kernel
theorem d_Plan_make_80 : decode prog_7_method_2_code 80 = .ok (.aload_n 0, 1) := by decide +kernel
theorem d_Plan_make_81 : decode prog_7_method_2_code 81 = .ok (.getfield 27, 3) := by decide +kernel
theorem d_Plan_make_84 : decode prog_7_method_2_code 84 = .ok (.iload_n 2, 1) := by decide +kernel
theorem d_Plan_make_85 : decode prog_7_method_2_code 85 = .ok (.iconst 0, 1) := by decide +kernel
theorem d_Plan_make_86 : decode prog_7_method_2_code 86 = .ok (.iastore, 1) := by decide +kernel
theorem d_Plan_make_87 : decode prog_7_method_2_code 87 = .ok (.iinc 2 1, 3) := by decide +kernel
theorem d_Plan_make_90 : decode prog_7_method_2_code 90 = .ok (.goto (-16), 3) := by decide +kernel
theorem d_Plan_make_93 : decode prog_7_method_2_code 93 = .ok (.aload_n 0, 1) := by decide +kernel
theorem d_Plan_make_94 : decode prog_7_method_2_code 94 = .ok (.iconst 0, 1) := by decide +kernel
theorem d_Plan_make_95 : decode prog_7_method_2_code 95 = .ok (.iconst 0, 1) := by decide +kernel
theorem d_Plan_make_96 : decode prog_7_method_2_code 96 = .ok (.invokevirtual 67, 3) := by decide +kernel
theorem d_Plan_make_99 : decode prog_7_method_2_code 99 = .ok (.return_, 1) := by decide +kernel
noncomputable def Lc_Plan_make_1 : Xp Bool := o2 (fun x y => decide (x < y)) (vI 2) (kI (ii 6))
noncomputable def Lb_Plan_make_1 : Sm := sAst 0 (gR 7 11 (vR 0)) (vI 2) (kI (ii 0))
noncomputable def Lu_Plan_make_1 : Sm := sInc 2 (ii 1)
noncomputable def F_Plan_make : Sm := sSeq (sIf (cAnd (o2 (fun x y => decide (x = y)) (gI 7 13 (vR 0)) (gI 4 3 (gR 7 5 (vR 0)))) (o2 (fun x y => decide (x = y)) (gI 7 12 (vR 0)) (vI 1))) (sRetV) (sSkip)) (sSeq (sIf (o2 (fun x y => decide (x ≠ y)) (gI 7 13 (vR 0)) (gI 4 3 (gR 7 5 (vR 0)))) (sCall (mV 7 D_Plan_fillTables) [asV Value.ref (vR 0)]) (sSkip)) (sSeq (sPut 7 13 (vR 0) (asV Value.int (gI 4 3 (gR 7 5 (vR 0))))) (sSeq (sPut 7 12 (vR 0) (asV Value.int (vI 1))) (sSeq (sPutZ 7 0 (vR 0) (kI (ii 0))) (sSeq (sPut 7 1 (vR 0) (asV Value.int (kI (ii 0)))) (sSeq (sPut 7 2 (vR 0) (asV Value.int (kI (ii 0)))) (sSeq (sBlk 2 (sSeq (sDecl (asV Value.int (kI (ii 0)))) (sWh (Lc_Plan_make_1) (Lb_Plan_make_1) Lu_Plan_make_1))) (sSeq (sCall (mV 7 D_Plan_tryFrom) [asV Value.ref (vR 0), asV Value.int (kI (ii 0)), asV Value.int (kI (ii 0))]) (sRetV)))))))))
theorem mf_Plan_make : Mf y_Plan_make prog_7_method_2_code 3 none 1 := ⟨tw_1053, tw_129, by decide +kernel⟩
noncomputable def D_Plan_make : Dn := runS [1, 1] F_Plan_make
theorem ok_Plan_make : MOK y_Plan_make prog_7_method_2_code 3 none 9 0 0 D_Plan_make := MOK.of (by decide) (by decide) (show SO Y_Plan_make [(0, 1), (1, 1)] [(0, 1), (1, 1)] 0 100 (([], 0), ([], 0)) F_Plan_make from
  (s_seq (sl1 := [(0, 1), (1, 1)]) (p1 := 23) (s_if (pt := 22) (pf := 23) (c_and (p1 := 14) (c_icmp_neF (p1 := 4) (p2 := 11) (tg := 23) (e_gI (k0 := 13) (p1 := 1) cf_7 (e_aload_n (k0 := 0) d_Plan_make_0 rfl rfl) (by decide) tw_402 d_Plan_make_1) (e_gI (k0 := 3) (p1 := 8) cf_4 (e_gR (k0 := 5) (p1 := 5) cf_7 (e_aload_n (k0 := 0) d_Plan_make_4 rfl rfl) (by decide) tw_394 d_Plan_make_5) (by decide) tw_330 d_Plan_make_8) d_Plan_make_11 rfl) (c_icmp_neF (p1 := 18) (p2 := 19) (tg := 23) (e_gI (k0 := 12) (p1 := 15) cf_7 (e_aload_n (k0 := 0) d_Plan_make_14 rfl rfl) (by decide) tw_401 d_Plan_make_15) (e_iload_n (k0 := 1) d_Plan_make_18 rfl rfl) d_Plan_make_19 rfl)) (s_retV rfl d_Plan_make_22) s_skip) (s_seq (sl1 := [(0, 1), (1, 1)]) (p1 := 41) (s_if (pt := 37) (pf := 41) (c_icmp_eqF (p1 := 27) (p2 := 34) (tg := 41) (e_gI (k0 := 13) (p1 := 24) cf_7 (e_aload_n (k0 := 0) d_Plan_make_23 rfl rfl) (by decide) tw_402 d_Plan_make_24) (e_gI (k0 := 3) (p1 := 31) cf_4 (e_gR (k0 := 5) (p1 := 28) cf_7 (e_aload_n (k0 := 0) d_Plan_make_27 rfl rfl) (by decide) tw_394 d_Plan_make_28) (by decide) tw_330 d_Plan_make_31) d_Plan_make_34 rfl) (s_call (p1 := 38) (a_cons (ι := Value.ref) (k0 := 1) (p1 := 38) (fun _ => rfl) (e_aload_n (k0 := 0) d_Plan_make_37 rfl rfl) a_nil) (k_virt ok_Plan_fillTables mf_Plan_fillTables ⟨tw_1056, tw_28⟩ rfl tw_1054 d_Plan_make_38 (by decide) (by decide) (by decide))) s_skip) (s_seq (sl1 := [(0, 1), (1, 1)]) (p1 := 52) (s_put (k0 := 13) (p1 := 42) (p2 := 49) cf_7 (e_aload_n (k0 := 0) d_Plan_make_41 rfl rfl) (e_gI (k0 := 3) (p1 := 46) cf_4 (e_gR (k0 := 5) (p1 := 43) cf_7 (e_aload_n (k0 := 0) d_Plan_make_42 rfl rfl) (by decide) tw_394 d_Plan_make_43) (by decide) tw_330 d_Plan_make_46) (by decide) fk_i tw_402 (Or.inl rfl) d_Plan_make_49) (s_seq (sl1 := [(0, 1), (1, 1)]) (p1 := 57) (s_put (k0 := 12) (p1 := 53) (p2 := 54) cf_7 (e_aload_n (k0 := 0) d_Plan_make_52 rfl rfl) (e_iload_n (k0 := 1) d_Plan_make_53 rfl rfl) (by decide) fk_i tw_401 (Or.inl rfl) d_Plan_make_54) (s_seq (sl1 := [(0, 1), (1, 1)]) (p1 := 62) (s_putZ (k0 := 0) (p1 := 58) (p2 := 59) cf_7 (e_aload_n (k0 := 0) d_Plan_make_57 rfl rfl) (e_iconst d_Plan_make_58 (by decide)) (by decide) rfl tw_385 rfl d_Plan_make_59) (s_seq (sl1 := [(0, 1), (1, 1)]) (p1 := 67) (s_put (k0 := 1) (p1 := 63) (p2 := 64) cf_7 (e_aload_n (k0 := 0) d_Plan_make_62 rfl rfl) (e_iconst d_Plan_make_63 (by decide)) (by decide) fk_i tw_387 (Or.inl rfl) d_Plan_make_64) (s_seq (sl1 := [(0, 1), (1, 1)]) (p1 := 72) (s_put (k0 := 2) (p1 := 68) (p2 := 69) cf_7 (e_aload_n (k0 := 0) d_Plan_make_67 rfl rfl) (e_iconst d_Plan_make_68 (by decide)) (by decide) fk_i tw_389 (Or.inl rfl) d_Plan_make_69) (s_seq (sl1 := [(0, 1), (1, 1)]) (p1 := 93) (s_blk (sl1 := [(0, 1), (1, 1), (2, 1)]) (s_seq (sl1 := [(0, 1), (1, 1), (2, 1)]) (p1 := 74) (s_decl (p1 := 73) (e_iconst d_Plan_make_72 (by decide)) (t_istore_n d_Plan_make_73 rfl (by decide)) rfl) (s_for (pt := 80) (pu := 87) (pf := 93) (pg := 0) (c_icmp_geF (p1 := 75) (p2 := 77) (tg := 93) (e_iload_n (k0 := 2) d_Plan_make_74 rfl rfl) (e_bipush d_Plan_make_75 (by decide)) d_Plan_make_77 rfl) (s_ast (p1 := 84) (p2 := 85) (p3 := 86) (e_gR (k0 := 11) (p1 := 81) cf_7 (e_aload_n (k0 := 0) d_Plan_make_80 rfl rfl) (by decide) tw_400 d_Plan_make_81) (e_iload_n (k0 := 2) d_Plan_make_84 rfl rfl) (e_iconst d_Plan_make_85 (by decide)) (as_i d_Plan_make_86)) (s_goto (p1 := 90) (s_inc (k0 := 2) d_Plan_make_87 rfl rfl (Nat.le_of_ble_eq_true rfl) rfl) d_Plan_make_90 rfl))) rfl) (s_seq (sl1 := [(0, 1), (1, 1)]) (p1 := 99) (s_call (p1 := 96) (a_cons (ι := Value.ref) (k0 := 1) (p1 := 94) (fun _ => rfl) (e_aload_n (k0 := 0) d_Plan_make_93 rfl rfl) (a_cons (ι := Value.int) (k0 := 1) (p1 := 95) (fun _ => rfl) (e_iconst d_Plan_make_94 (by decide)) (a_cons (ι := Value.int) (k0 := 1) (p1 := 96) (fun _ => rfl) (e_iconst d_Plan_make_95 (by decide)) a_nil))) (k_virt ok_Plan_tryFrom mf_Plan_tryFrom ⟨tw_1069, tw_29⟩ rfl tw_1067 d_Plan_make_96 (by decide) (by decide) (by decide))) (s_retV rfl d_Plan_make_99)))))))))))

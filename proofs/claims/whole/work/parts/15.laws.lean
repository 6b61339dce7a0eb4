/-! Methods: bytes, denotations, that the bytes do so (written by wip/whole/jgen.py). -/
/-! BlinkerCross$Laws.suppose(LBlinkerCross$Scene;III)V -/
abbrev y_Laws_suppose : MethodName := ⟨"BlinkerCross$Laws", "suppose", "(LBlinkerCross$Scene;III)V"⟩
abbrev Y_Laws_suppose : Yt := (prog_5_method_13_code, 5, "BlinkerCross$Laws", 1, none, "suppose")
theorem d_Laws_suppose_0 : decode prog_5_method_13_code 0 = .ok (.aload_n 0, 1) := by decide +kernel
theorem d_Laws_suppose_1 : decode prog_5_method_13_code 1 = .ok (.getfield 9, 3) := by decide +kernel
theorem d_Laws_suppose_4 : decode prog_5_method_13_code 4 = .ok (.iconst 1, 1) := by decide +kernel
theorem d_Laws_suppose_5 : decode prog_5_method_13_code 5 = .ok (.iload_n 3, 1) := by decide +kernel
theorem d_Laws_suppose_6 : decode prog_5_method_13_code 6 = .ok (.ifCond .ge 7, 3) := by decide +kernel
theorem d_Laws_suppose_9 : decode prog_5_method_13_code 9 = .ok (.iconst 0, 1) := by decide +kernel
theorem d_Laws_suppose_10 : decode prog_5_method_13_code 10 = .ok (.goto 9, 3) := by decide +kernel
theorem d_Laws_suppose_13 : decode prog_5_method_13_code 13 = .ok (.aload_n 1, 1) := by decide +kernel
theorem d_Laws_suppose_14 : decode prog_5_method_13_code 14 = .ok (.iload_n 2, 1) := by decide +kernel
theorem d_Laws_suppose_15 : decode prog_5_method_13_code 15 = .ok (.iload_n 3, 1) := by decide +kernel
theorem d_Laws_suppose_16 : decode prog_5_method_13_code 16 = .ok (.invokevirtual 71, 3) := by decide +kernel
theorem d_Laws_suppose_19 : decode prog_5_method_13_code 19 = .ok (.iastore, 1) := by decide +kernel
theorem d_Laws_suppose_20 : decode prog_5_method_13_code 20 = .ok (.aload_n 0, 1) := by decide +kernel
theorem d_Laws_suppose_21 : decode prog_5_method_13_code 21 = .ok (.getfield 9, 3) := by decide +kernel
theorem d_Laws_suppose_24 : decode prog_5_method_13_code 24 = .ok (.iconst 3, 1) := by decide +kernel
theorem d_Laws_suppose_25 : decode prog_5_method_13_code 25 = .ok (.iload_n 3, 1) := by decide +kernel
theorem d_Laws_suppose_26 : decode prog_5_method_13_code 26 = .ok (.ifCond .ge 7, 3) := by decide +kernel
theorem d_Laws_suppose_29 : decode prog_5_method_13_code 29 = .ok (.iconst 0, 1) := by decide +kernel
theorem d_Laws_suppose_30 : decode prog_5_method_13_code 30 = .ok (.goto 12, 3) := by decide +kernel
theorem d_Laws_suppose_33 : decode prog_5_method_13_code 33 = .ok (.aload_n 0, 1) := by decide +kernel
theorem d_Laws_suppose_34 : decode prog_5_method_13_code 34 = .ok (.getfield 18, 3) := by decide +kernel
theorem d_Laws_suppose_37 : decode prog_5_method_13_code 37 = .ok (.getfield 88, 3) := by decide +kernel
theorem d_Laws_suppose_40 : decode prog_5_method_13_code 40 = .ok (.iload_n 3, 1) := by decide +kernel
theorem d_Laws_suppose_41 : decode prog_5_method_13_code 41 = .ok (.iaload, 1) := by decide +kernel
theorem d_Laws_suppose_42 : decode prog_5_method_13_code 42 = .ok (.iastore, 1) := by decide +kernel
theorem d_Laws_suppose_43 : decode prog_5_method_13_code 43 = .ok (.aload_n 0, 1) := by decide +kernel
theorem d_Laws_suppose_44 : decode prog_5_method_13_code 44 = .ok (.getfield 9, 3) := by decide +kernel
theorem d_Laws_suppose_47 : decode prog_5_method_13_code 47 = .ok (.iconst 4, 1) := by decide +kernel
theorem d_Laws_suppose_48 : decode prog_5_method_13_code 48 = .ok (.iload 4, 2) := by decide +kernel
theorem d_Laws_suppose_50 : decode prog_5_method_13_code 50 = .ok (.iastore, 1) := by decide +kernel
theorem d_Laws_suppose_51 : decode prog_5_method_13_code 51 = .ok (.aload_n 0, 1) := by decide +kernel
theorem d_Laws_suppose_52 : decode prog_5_method_13_code 52 = .ok (.getfield 9, 3) := by decide +kernel
theorem d_Laws_suppose_55 : decode prog_5_method_13_code 55 = .ok (.iconst 5, 1) := by decide +kernel
theorem d_Laws_suppose_56 : decode prog_5_method_13_code 56 = .ok (.aload_n 1, 1) := by decide +kernel
theorem d_Laws_suppose_57 : decode prog_5_method_13_code 57 = .ok (.getfield 38, 3) := by decide +kernel
theorem d_Laws_suppose_60 : decode prog_5_method_13_code 60 = .ok (.bipush 25, 2) := by decide +kernel
theorem d_Laws_suppose_62 : decode prog_5_method_13_code 62 = .ok (.iaload, 1) := by decide +kernel
theorem d_Laws_suppose_63 : decode prog_5_method_13_code 63 = .ok (.iastore, 1) := by decide +kernel
theorem d_Laws_suppose_64 : decode prog_5_method_13_code 64 = .ok (.aload_n 0, 1) := by decide +kernel
theorem d_Laws_suppose_65 : decode prog_5_method_13_code 65 = .ok (.getfield 9, 3) := by decide +kernel
theorem d_Laws_suppose_68 : decode prog_5_method_13_code 68 = .ok (.bipush 6, 2) := by decide +kernel
theorem d_Laws_suppose_70 : decode prog_5_method_13_code 70 = .ok (.iload_n 2, 1) := by decide +kernel
theorem d_Laws_suppose_71 : decode prog_5_method_13_code 71 = .ok (.iastore, 1) := by decide +kernel
theorem d_Laws_suppose_72 : decode prog_5_method_13_code 72 = .ok (.aload_n 0, 1) := by decide +kernel
theorem d_Laws_suppose_73 : decode prog_5_method_13_code 73 = .ok (.getfield 9, 3) := by decide +kernel
theorem d_Laws_suppose_76 : decode prog_5_method_13_code 76 = .ok (.bipush 7, 2) := by decide +kernel
theorem d_Laws_suppose_78 : decode prog_5_method_13_code 78 = .ok (.aload_n 1, 1) := by decide +kernel
theorem d_Laws_suppose_79 : decode prog_5_method_13_code 79 = .ok (.getfield 38, 3) := by decide +kernel
theorem d_Laws_suppose_82 : decode prog_5_method_13_code 82 = .ok (.bipush 15, 2) := by decide +kernel
theorem d_Laws_suppose_84 : decode prog_5_method_13_code 84 = .ok (.iload_n 2, 1) := by decide +kernel
theorem d_Laws_suppose_85 : decode prog_5_method_13_code 85 = .ok (.iadd, 1) := by decide +kernel
theorem d_Laws_suppose_86 : decode prog_5_method_13_code 86 = .ok (.iaload, 1) := by decide +kernel
theorem d_Laws_suppose_87 : decode prog_5_method_13_code 87 = .ok (.iastore, 1) := by decide +kernel
theorem d_Laws_suppose_88 : decode prog_5_method_13_code 88 = .ok (.aload_n 0, 1) := by decide +kernel
theorem d_Laws_suppose_89 : decode prog_5_method_13_code 89 = .ok (.getfield 9, 3) := by decide +kernel
theorem d_Laws_suppose_92 : decode prog_5_method_13_code 92 = .ok (.bipush 8, 2) := by decide +kernel
theorem d_Laws_suppose_94 : decode prog_5_method_13_code 94 = .ok (.aload_n 0, 1) := by decide +kernel
theorem d_Laws_suppose_95 : decode prog_5_method_13_code 95 = .ok (.getfield 18, 3) := by decide +kernel
theorem d_Laws_suppose_98 : decode prog_5_method_13_code 98 = .ok (.getfield 60, 3) := by decide +kernel
theorem d_Laws_suppose_101 : decode prog_5_method_13_code 101 = .ok (.iastore, 1) := by decide +kernel
theorem d_Laws_suppose_102 : decode prog_5_method_13_code 102 = .ok (.return_, 1) := by decide +kernel
noncomputable def F_Laws_suppose : Sm := sSeq (sAst 0 (gR 5 1 (vR 0)) (kI (ii 1)) (iX (o1 (fun x => decide (x < 0)) (vI 3)) (kI (ii 0)) (cI (mV 4 D_Scene_wantOf) [asV Value.ref (vR 1), asV Value.int (vI 2), asV Value.int (vI 3)]))) (sSeq (sAst 0 (gR 5 1 (vR 0)) (kI (ii 3)) (iX (o1 (fun x => decide (x < 0)) (vI 3)) (kI (ii 0)) (aI 0 (gR 2 3 (gR 5 0 (vR 0))) (vI 3)))) (sSeq (sAst 0 (gR 5 1 (vR 0)) (kI (ii 4)) (vI 4)) (sSeq (sAst 0 (gR 5 1 (vR 0)) (kI (ii 5)) (aI 0 (gR 4 0 (vR 1)) (kI (ii 25)))) (sSeq (sAst 0 (gR 5 1 (vR 0)) (kI (ii 6)) (vI 2)) (sSeq (sAst 0 (gR 5 1 (vR 0)) (kI (ii 7)) (aI 0 (gR 4 0 (vR 1)) (o2 (fun x y => x + y) (kI (ii 15)) (vI 2)))) (sSeq (sAst 0 (gR 5 1 (vR 0)) (kI (ii 8)) (gI 2 0 (gR 5 0 (vR 0)))) (sRetV)))))))
theorem mf_Laws_suppose : Mf y_Laws_suppose prog_5_method_13_code 5 none 4 := ⟨tw_924, tw_127, by decide +kernel⟩
noncomputable def D_Laws_suppose : Dn := runS [1, 1, 1, 1, 1] F_Laws_suppose
theorem ok_Laws_suppose : MOK y_Laws_suppose prog_5_method_13_code 5 none 1 0 0 D_Laws_suppose := MOK.of (by decide) (by decide) (show SO Y_Laws_suppose [(0, 1), (1, 1), (2, 1), (3, 1), (4, 1)] [(0, 1), (1, 1), (2, 1), (3, 1), (4, 1)] 0 103 (([], 0), ([], 0)) F_Laws_suppose from
  (s_seq (sl1 := [(0, 1), (1, 1), (2, 1), (3, 1), (4, 1)]) (p1 := 20) (s_ast (p1 := 4) (p2 := 5) (p3 := 19) (e_gR (k0 := 1) (p1 := 1) cf_5 (e_aload_n (k0 := 0) d_Laws_suppose_0 rfl rfl) (by decide) tw_352 d_Laws_suppose_1) (e_iconst d_Laws_suppose_4 (by decide)) (e_ite (pt := 9) (p1 := 10) (pf := 13) (c_if_geF (p1 := 6) (tg := 13) (e_iload_n (k0 := 3) d_Laws_suppose_5 rfl rfl) d_Laws_suppose_6 rfl) (e_iconst d_Laws_suppose_9 (by decide)) d_Laws_suppose_10 rfl (e_cI (p1 := 16) (a_cons (ι := Value.ref) (k0 := 1) (p1 := 14) (fun _ => rfl) (e_aload_n (k0 := 1) d_Laws_suppose_13 rfl rfl) (a_cons (ι := Value.int) (k0 := 1) (p1 := 15) (fun _ => rfl) (e_iload_n (k0 := 2) d_Laws_suppose_14 rfl rfl) (a_cons (ι := Value.int) (k0 := 1) (p1 := 16) (fun _ => rfl) (e_iload_n (k0 := 3) d_Laws_suppose_15 rfl rfl) a_nil))) (k_virt ok_Scene_wantOf mf_Scene_wantOf ⟨tw_873, tw_874⟩ rfl tw_925 d_Laws_suppose_16 (by decide) (by decide) (by decide)))) (as_i d_Laws_suppose_19)) (s_seq (sl1 := [(0, 1), (1, 1), (2, 1), (3, 1), (4, 1)]) (p1 := 43) (s_ast (p1 := 24) (p2 := 25) (p3 := 42) (e_gR (k0 := 1) (p1 := 21) cf_5 (e_aload_n (k0 := 0) d_Laws_suppose_20 rfl rfl) (by decide) tw_352 d_Laws_suppose_21) (e_iconst d_Laws_suppose_24 (by decide)) (e_ite (pt := 29) (p1 := 30) (pf := 33) (c_if_geF (p1 := 26) (tg := 33) (e_iload_n (k0 := 3) d_Laws_suppose_25 rfl rfl) d_Laws_suppose_26 rfl) (e_iconst d_Laws_suppose_29 (by decide)) d_Laws_suppose_30 rfl (e_iald (p1 := 40) (p2 := 41) (e_gR (k0 := 3) (p1 := 37) cf_2 (e_gR (k0 := 0) (p1 := 34) cf_5 (e_aload_n (k0 := 0) d_Laws_suppose_33 rfl rfl) (by decide) tw_351 d_Laws_suppose_34) (by decide) tw_220 d_Laws_suppose_37) (e_iload_n (k0 := 3) d_Laws_suppose_40 rfl rfl) d_Laws_suppose_41)) (as_i d_Laws_suppose_42)) (s_seq (sl1 := [(0, 1), (1, 1), (2, 1), (3, 1), (4, 1)]) (p1 := 51) (s_ast (p1 := 47) (p2 := 48) (p3 := 50) (e_gR (k0 := 1) (p1 := 44) cf_5 (e_aload_n (k0 := 0) d_Laws_suppose_43 rfl rfl) (by decide) tw_352 d_Laws_suppose_44) (e_iconst d_Laws_suppose_47 (by decide)) (e_iload (k0 := 4) d_Laws_suppose_48 rfl) (as_i d_Laws_suppose_50)) (s_seq (sl1 := [(0, 1), (1, 1), (2, 1), (3, 1), (4, 1)]) (p1 := 64) (s_ast (p1 := 55) (p2 := 56) (p3 := 63) (e_gR (k0 := 1) (p1 := 52) cf_5 (e_aload_n (k0 := 0) d_Laws_suppose_51 rfl rfl) (by decide) tw_352 d_Laws_suppose_52) (e_iconst d_Laws_suppose_55 (by decide)) (e_iald (p1 := 60) (p2 := 62) (e_gR (k0 := 0) (p1 := 57) cf_4 (e_aload_n (k0 := 1) d_Laws_suppose_56 rfl rfl) (by decide) tw_318 d_Laws_suppose_57) (e_bipush d_Laws_suppose_60 (by decide)) d_Laws_suppose_62) (as_i d_Laws_suppose_63)) (s_seq (sl1 := [(0, 1), (1, 1), (2, 1), (3, 1), (4, 1)]) (p1 := 72) (s_ast (p1 := 68) (p2 := 70) (p3 := 71) (e_gR (k0 := 1) (p1 := 65) cf_5 (e_aload_n (k0 := 0) d_Laws_suppose_64 rfl rfl) (by decide) tw_352 d_Laws_suppose_65) (e_bipush d_Laws_suppose_68 (by decide)) (e_iload_n (k0 := 2) d_Laws_suppose_70 rfl rfl) (as_i d_Laws_suppose_71)) (s_seq (sl1 := [(0, 1), (1, 1), (2, 1), (3, 1), (4, 1)]) (p1 := 88) (s_ast (p1 := 76) (p2 := 78) (p3 := 87) (e_gR (k0 := 1) (p1 := 73) cf_5 (e_aload_n (k0 := 0) d_Laws_suppose_72 rfl rfl) (by decide) tw_352 d_Laws_suppose_73) (e_bipush d_Laws_suppose_76 (by decide)) (e_iald (p1 := 82) (p2 := 86) (e_gR (k0 := 0) (p1 := 79) cf_4 (e_aload_n (k0 := 1) d_Laws_suppose_78 rfl rfl) (by decide) tw_318 d_Laws_suppose_79) (e_iadd (p1 := 84) (p2 := 85) (e_bipush d_Laws_suppose_82 (by decide)) (e_iload_n (k0 := 2) d_Laws_suppose_84 rfl rfl) d_Laws_suppose_85) d_Laws_suppose_86) (as_i d_Laws_suppose_87)) (s_seq (sl1 := [(0, 1), (1, 1), (2, 1), (3, 1), (4, 1)]) (p1 := 102) (s_ast (p1 := 92) (p2 := 94) (p3 := 101) (e_gR (k0 := 1) (p1 := 89) cf_5 (e_aload_n (k0 := 0) d_Laws_suppose_88 rfl rfl) (by decide) tw_352 d_Laws_suppose_89) (e_bipush d_Laws_suppose_92 (by decide)) (e_gI (k0 := 0) (p1 := 98) cf_2 (e_gR (k0 := 0) (p1 := 95) cf_5 (e_aload_n (k0 := 0) d_Laws_suppose_94 rfl rfl) (by decide) tw_351 d_Laws_suppose_95) (by decide) tw_201 d_Laws_suppose_98) (as_i d_Laws_suppose_101)) (s_retV rfl d_Laws_suppose_102)))))))))
/-! BlinkerCross$Laws.meet(LBlinkerCross$Scene;I)V -/
abbrev y_Laws_meet : MethodName := ⟨"BlinkerCross$Laws", "meet", "(LBlinkerCross$Scene;I)V"⟩
abbrev Y_Laws_meet : Yt := (prog_5_method_2_code, 4, "BlinkerCross$Laws", 2, none, "meet")
theorem d_Laws_meet_0 : decode prog_5_method_2_code 0 = .ok (.aload_n 1, 1) := by decide +kernel
theorem d_Laws_meet_1 : decode prog_5_method_2_code 1 = .ok (.getfield 22, 3) := by decide +kernel
theorem d_Laws_meet_4 : decode prog_5_method_2_code 4 = .ok (.iload_n 2, 1) := by decide +kernel
theorem d_Laws_meet_5 : decode prog_5_method_2_code 5 = .ok (.iaload, 1) := by decide +kernel
theorem d_Laws_meet_6 : decode prog_5_method_2_code 6 = .ok (.istore_n 3, 1) := by decide +kernel
theorem d_Laws_meet_7 : decode prog_5_method_2_code 7 = .ok (.aload_n 0, 1) := by decide +kernel
theorem d_Laws_meet_8 : decode prog_5_method_2_code 8 = .ok (.aload_n 1, 1) := by decide +kernel
theorem d_Laws_meet_9 : decode prog_5_method_2_code 9 = .ok (.iload_n 2, 1) := by decide +kernel
theorem d_Laws_meet_10 : decode prog_5_method_2_code 10 = .ok (.iload_n 3, 1) := by decide +kernel
theorem d_Laws_meet_11 : decode prog_5_method_2_code 11 = .ok (.iload_n 3, 1) := by decide +kernel
theorem d_Laws_meet_12 : decode prog_5_method_2_code 12 = .ok (.ifCond .ge 7, 3) := by decide +kernel
theorem d_Laws_meet_15 : decode prog_5_method_2_code 15 = .ok (.iconst 0, 1) := by decide +kernel
theorem d_Laws_meet_16 : decode prog_5_method_2_code 16 = .ok (.goto 9, 3) := by decide +kernel
theorem d_Laws_meet_19 : decode prog_5_method_2_code 19 = .ok (.aload_n 1, 1) := by decide +kernel
theorem d_Laws_meet_20 : decode prog_5_method_2_code 20 = .ok (.getfield 27, 3) := by decide +kernel
theorem d_Laws_meet_23 : decode prog_5_method_2_code 23 = .ok (.iload_n 3, 1) := by decide +kernel
theorem d_Laws_meet_24 : decode prog_5_method_2_code 24 = .ok (.iaload, 1) := by decide +kernel
theorem d_Laws_meet_25 : decode prog_5_method_2_code 25 = .ok (.invokevirtual 30, 3) := by decide +kernel
theorem d_Laws_meet_28 : decode prog_5_method_2_code 28 = .ok (.aload_n 0, 1) := by decide +kernel
theorem d_Laws_meet_29 : decode prog_5_method_2_code 29 = .ok (.getfield 9, 3) := by decide +kernel
theorem d_Laws_meet_32 : decode prog_5_method_2_code 32 = .ok (.iconst 0, 1) := by decide +kernel
theorem d_Laws_meet_33 : decode prog_5_method_2_code 33 = .ok (.aload_n 1, 1) := by decide +kernel
theorem d_Laws_meet_34 : decode prog_5_method_2_code 34 = .ok (.iload_n 2, 1) := by decide +kernel
theorem d_Laws_meet_35 : decode prog_5_method_2_code 35 = .ok (.invokevirtual 34, 3) := by decide +kernel
theorem d_Laws_meet_38 : decode prog_5_method_2_code 38 = .ok (.iastore, 1) := by decide +kernel
theorem d_Laws_meet_39 : decode prog_5_method_2_code 39 = .ok (.aload_n 0, 1) := by decide +kernel
theorem d_Laws_meet_40 : decode prog_5_method_2_code 40 = .ok (.getfield 9, 3) := by decide +kernel
theorem d_Laws_meet_43 : decode prog_5_method_2_code 43 = .ok (.iconst 2, 1) := by decide +kernel
theorem d_Laws_meet_44 : decode prog_5_method_2_code 44 = .ok (.aload_n 1, 1) := by decide +kernel
theorem d_Laws_meet_45 : decode prog_5_method_2_code 45 = .ok (.iload_n 2, 1) := by decide +kernel
theorem d_Laws_meet_46 : decode prog_5_method_2_code 46 = .ok (.aload_n 1, 1) := by decide +kernel
theorem d_Laws_meet_47 : decode prog_5_method_2_code 47 = .ok (.getfield 38, 3) := by decide +kernel
theorem d_Laws_meet_50 : decode prog_5_method_2_code 50 = .ok (.iconst 5, 1) := by decide +kernel
theorem d_Laws_meet_51 : decode prog_5_method_2_code 51 = .ok (.iload_n 2, 1) := by decide +kernel
theorem d_Laws_meet_52 : decode prog_5_method_2_code 52 = .ok (.iadd, 1) := by decide +kernel
theorem d_Laws_meet_53 : decode prog_5_method_2_code 53 = .ok (.iaload, 1) := by decide +kernel
theorem d_Laws_meet_54 : decode prog_5_method_2_code 54 = .ok (.iload_n 3, 1) := by decide +kernel
theorem d_Laws_meet_55 : decode prog_5_method_2_code 55 = .ok (.invokevirtual 41, 3) := by decide +kernel
theorem d_Laws_meet_58 : decode prog_5_method_2_code 58 = .ok (.iastore, 1) := by decide +kernel
theorem d_Laws_meet_59 : decode prog_5_method_2_code 59 = .ok (.return_, 1) := by decide +kernel
noncomputable def F_Laws_meet : Sm := sSeq (sDecl (asV Value.int (aI 0 (gR 4 1 (vR 1)) (vI 2)))) (sSeq (sCall (mV 5 D_Laws_suppose) [asV Value.ref (vR 0), asV Value.ref (vR 1), asV Value.int (vI 2), asV Value.int (vI 3), asV Value.int (iX (o1 (fun x => decide (x < 0)) (vI 3)) (kI (ii 0)) (aI 0 (gR 4 2 (vR 1)) (vI 3)))]) (sSeq (sAst 0 (gR 5 1 (vR 0)) (kI (ii 0)) (cI (mV 4 D_Scene_seenCount) [asV Value.ref (vR 1), asV Value.int (vI 2)])) (sSeq (sAst 0 (gR 5 1 (vR 0)) (kI (ii 2)) (cI (mV 4 D_Scene_nextWant) [asV Value.ref (vR 1), asV Value.int (vI 2), asV Value.int (aI 0 (gR 4 0 (vR 1)) (o2 (fun x y => x + y) (kI (ii 5)) (vI 2))), asV Value.int (vI 3)])) (sRetV))))
theorem mf_Laws_meet : Mf y_Laws_meet prog_5_method_2_code 4 none 2 := ⟨tw_920, tw_127, by decide +kernel⟩
noncomputable def D_Laws_meet : Dn := runS [1, 1, 1] F_Laws_meet
theorem ok_Laws_meet : MOK y_Laws_meet prog_5_method_2_code 4 none 2 0 0 D_Laws_meet := MOK.of (by decide) (by decide) (show SO Y_Laws_meet [(0, 1), (1, 1), (2, 1)] [(0, 1), (1, 1), (2, 1), (3, 1)] 0 60 (([], 0), ([], 0)) F_Laws_meet from
  (s_seq (sl1 := [(0, 1), (1, 1), (2, 1), (3, 1)]) (p1 := 7) (s_decl (p1 := 6) (e_iald (p1 := 4) (p2 := 5) (e_gR (k0 := 1) (p1 := 1) cf_4 (e_aload_n (k0 := 1) d_Laws_meet_0 rfl rfl) (by decide) tw_323 d_Laws_meet_1) (e_iload_n (k0 := 2) d_Laws_meet_4 rfl rfl) d_Laws_meet_5) (t_istore_n d_Laws_meet_6 rfl (by decide)) rfl) (s_seq (sl1 := [(0, 1), (1, 1), (2, 1), (3, 1)]) (p1 := 28) (s_call (p1 := 25) (a_cons (ι := Value.ref) (k0 := 1) (p1 := 8) (fun _ => rfl) (e_aload_n (k0 := 0) d_Laws_meet_7 rfl rfl) (a_cons (ι := Value.ref) (k0 := 1) (p1 := 9) (fun _ => rfl) (e_aload_n (k0 := 1) d_Laws_meet_8 rfl rfl) (a_cons (ι := Value.int) (k0 := 1) (p1 := 10) (fun _ => rfl) (e_iload_n (k0 := 2) d_Laws_meet_9 rfl rfl) (a_cons (ι := Value.int) (k0 := 1) (p1 := 11) (fun _ => rfl) (e_iload_n (k0 := 3) d_Laws_meet_10 rfl rfl) (a_cons (ι := Value.int) (k0 := 1) (p1 := 25) (fun _ => rfl) (e_ite (pt := 15) (p1 := 16) (pf := 19) (c_if_geF (p1 := 12) (tg := 19) (e_iload_n (k0 := 3) d_Laws_meet_11 rfl rfl) d_Laws_meet_12 rfl) (e_iconst d_Laws_meet_15 (by decide)) d_Laws_meet_16 rfl (e_iald (p1 := 23) (p2 := 24) (e_gR (k0 := 2) (p1 := 20) cf_4 (e_aload_n (k0 := 1) d_Laws_meet_19 rfl rfl) (by decide) tw_328 d_Laws_meet_20) (e_iload_n (k0 := 3) d_Laws_meet_23 rfl rfl) d_Laws_meet_24)) a_nil))))) (k_virt ok_Laws_suppose mf_Laws_suppose ⟨tw_923, tw_25⟩ rfl tw_921 d_Laws_meet_25 (by decide) (by decide) (by decide))) (s_seq (sl1 := [(0, 1), (1, 1), (2, 1), (3, 1)]) (p1 := 39) (s_ast (p1 := 32) (p2 := 33) (p3 := 38) (e_gR (k0 := 1) (p1 := 29) cf_5 (e_aload_n (k0 := 0) d_Laws_meet_28 rfl rfl) (by decide) tw_352 d_Laws_meet_29) (e_iconst d_Laws_meet_32 (by decide)) (e_cI (p1 := 35) (a_cons (ι := Value.ref) (k0 := 1) (p1 := 34) (fun _ => rfl) (e_aload_n (k0 := 1) d_Laws_meet_33 rfl rfl) (a_cons (ι := Value.int) (k0 := 1) (p1 := 35) (fun _ => rfl) (e_iload_n (k0 := 2) d_Laws_meet_34 rfl rfl) a_nil)) (k_virt ok_Scene_seenCount mf_Scene_seenCount ⟨tw_901, tw_902⟩ rfl tw_926 d_Laws_meet_35 (by decide) (by decide) (by decide))) (as_i d_Laws_meet_38)) (s_seq (sl1 := [(0, 1), (1, 1), (2, 1), (3, 1)]) (p1 := 59) (s_ast (p1 := 43) (p2 := 44) (p3 := 58) (e_gR (k0 := 1) (p1 := 40) cf_5 (e_aload_n (k0 := 0) d_Laws_meet_39 rfl rfl) (by decide) tw_352 d_Laws_meet_40) (e_iconst d_Laws_meet_43 (by decide)) (e_cI (p1 := 55) (a_cons (ι := Value.ref) (k0 := 1) (p1 := 45) (fun _ => rfl) (e_aload_n (k0 := 1) d_Laws_meet_44 rfl rfl) (a_cons (ι := Value.int) (k0 := 1) (p1 := 46) (fun _ => rfl) (e_iload_n (k0 := 2) d_Laws_meet_45 rfl rfl) (a_cons (ι := Value.int) (k0 := 1) (p1 := 54) (fun _ => rfl) (e_iald (p1 := 50) (p2 := 53) (e_gR (k0 := 0) (p1 := 47) cf_4 (e_aload_n (k0 := 1) d_Laws_meet_46 rfl rfl) (by decide) tw_318 d_Laws_meet_47) (e_iadd (p1 := 51) (p2 := 52) (e_iconst d_Laws_meet_50 (by decide)) (e_iload_n (k0 := 2) d_Laws_meet_51 rfl rfl) d_Laws_meet_52) d_Laws_meet_53) (a_cons (ι := Value.int) (k0 := 1) (p1 := 55) (fun _ => rfl) (e_iload_n (k0 := 3) d_Laws_meet_54 rfl rfl) a_nil)))) (k_virt ok_Scene_nextWant mf_Scene_nextWant ⟨tw_928, tw_929⟩ rfl tw_927 d_Laws_meet_55 (by decide) (by decide) (by decide))) (as_i d_Laws_meet_58)) (s_retV rfl d_Laws_meet_59))))))
/-! BlinkerCross$Laws.combined(III)I -/
abbrev y_Laws_combined : MethodName := ⟨"BlinkerCross$Laws", "combined", "(III)I"⟩
abbrev Y_Laws_combined : Yt := (prog_5_method_15_code, 3, "BlinkerCross$Laws", 0, (some .int), "combined")
theorem d_Laws_combined_0 : decode prog_5_method_15_code 0 = .ok (.iload_n 0, 1) := by decide +kernel
theorem d_Laws_combined_1 : decode prog_5_method_15_code 1 = .ok (.tableswitch 39 4 6 #[27, 31, 35], 27) := by decide +kernel
theorem d_Laws_combined_28 : decode prog_5_method_15_code 28 = .ok (.iload_n 1, 1) := by decide +kernel
theorem d_Laws_combined_29 : decode prog_5_method_15_code 29 = .ok (.iload_n 2, 1) := by decide +kernel
theorem d_Laws_combined_30 : decode prog_5_method_15_code 30 = .ok (.iadd, 1) := by decide +kernel
theorem d_Laws_combined_31 : decode prog_5_method_15_code 31 = .ok (.ireturn, 1) := by decide +kernel
theorem d_Laws_combined_32 : decode prog_5_method_15_code 32 = .ok (.iload_n 1, 1) := by decide +kernel
theorem d_Laws_combined_33 : decode prog_5_method_15_code 33 = .ok (.iload_n 2, 1) := by decide +kernel
theorem d_Laws_combined_34 : decode prog_5_method_15_code 34 = .ok (.isub, 1) := by decide +kernel
theorem d_Laws_combined_35 : decode prog_5_method_15_code 35 = .ok (.ireturn, 1) := by decide +kernel
theorem d_Laws_combined_36 : decode prog_5_method_15_code 36 = .ok (.iload_n 1, 1) := by decide +kernel
theorem d_Laws_combined_37 : decode prog_5_method_15_code 37 = .ok (.iload_n 2, 1) := by decide +kernel
theorem d_Laws_combined_38 : decode prog_5_method_15_code 38 = .ok (.imul, 1) := by decide +kernel
theorem d_Laws_combined_39 : decode prog_5_method_15_code 39 = .ok (.ireturn, 1) := by decide +kernel
theorem d_Laws_combined_40 : decode prog_5_method_15_code 40 = .ok (.iload_n 2, 1) := by decide +kernel
theorem d_Laws_combined_41 : decode prog_5_method_15_code 41 = .ok (.ifCond .ne 7, 3) := by decide +kernel
theorem d_Laws_combined_44 : decode prog_5_method_15_code 44 = .ok (.iconst 0, 1) := by decide +kernel
theorem d_Laws_combined_45 : decode prog_5_method_15_code 45 = .ok (.goto 6, 3) := by decide +kernel
theorem d_Laws_combined_48 : decode prog_5_method_15_code 48 = .ok (.iload_n 1, 1) := by decide +kernel
theorem d_Laws_combined_49 : decode prog_5_method_15_code 49 = .ok (.iload_n 2, 1) := by decide +kernel
theorem d_Laws_combined_50 : decode prog_5_method_15_code 50 = .ok (.idiv, 1) := by decide +kernel
theorem d_Laws_combined_51 : decode prog_5_method_15_code 51 = .ok (.ireturn, 1) := by decide +kernel
noncomputable def F_Laws_combined : Sm := sSw (vI 0) [(ii 4, sRet (asV Value.int (o2 (fun x y => x + y) (vI 1) (vI 2)))), (ii 5, sRet (asV Value.int (o2 (fun x y => x - y) (vI 1) (vI 2)))), (ii 6, sRet (asV Value.int (o2 (fun x y => x * y) (vI 1) (vI 2))))] (sRet (asV Value.int (iX (o1 (fun x => decide (x = 0)) (vI 2)) (kI (ii 0)) (oD (vI 1) (vI 2)))))
theorem mf_Laws_combined : Mf y_Laws_combined prog_5_method_15_code 3 (some .int) 3 := ⟨tw_942, tw_127, by decide +kernel⟩
noncomputable def D_Laws_combined : Dn := runS [1, 1, 1] F_Laws_combined
set_option maxRecDepth 100000 in
theorem ok_Laws_combined : MOK y_Laws_combined prog_5_method_15_code 3 (some .int) 0 0 0 D_Laws_combined := MOK.of (by decide) (by decide) (show SO Y_Laws_combined [(0, 1), (1, 1), (2, 1)] [(0, 1), (1, 1), (2, 1)] 0 0 (([], 0), ([], 0)) F_Laws_combined from
  (s_tab (p1 := 1) (P := [(ii 4, 28), (ii 5, 32), (ii 6, 36)]) (pd := 40) (jc := ([], 0)) (dflt := 39) (lo := 4) (hi := 6) (offs := #[27, 31, 35]) (len := 27) (e_iload_n (k0 := 0) d_Laws_combined_0 rfl rfl) d_Laws_combined_1 (by decide) (by decide +kernel) ⟨rfl, (s_ret (p1 := 31) (e_iadd (p1 := 29) (p2 := 30) (e_iload_n (k0 := 1) d_Laws_combined_28 rfl rfl) (e_iload_n (k0 := 2) d_Laws_combined_29 rfl rfl) d_Laws_combined_30) rfl d_Laws_combined_31), ⟨rfl, (s_ret (p1 := 35) (e_isub (p1 := 33) (p2 := 34) (e_iload_n (k0 := 1) d_Laws_combined_32 rfl rfl) (e_iload_n (k0 := 2) d_Laws_combined_33 rfl rfl) d_Laws_combined_34) rfl d_Laws_combined_35), ⟨rfl, (s_ret (p1 := 39) (e_imul (p1 := 37) (p2 := 38) (e_iload_n (k0 := 1) d_Laws_combined_36 rfl rfl) (e_iload_n (k0 := 2) d_Laws_combined_37 rfl rfl) d_Laws_combined_38) rfl d_Laws_combined_39), trivial⟩⟩⟩ (s_ret (p1 := 51) (e_ite (pt := 44) (p1 := 45) (pf := 48) (c_if_neF (p1 := 41) (tg := 48) (e_iload_n (k0 := 2) d_Laws_combined_40 rfl rfl) d_Laws_combined_41 rfl) (e_iconst d_Laws_combined_44 (by decide)) d_Laws_combined_45 rfl (e_idiv (p1 := 49) (p2 := 50) (e_iload_n (k0 := 1) d_Laws_combined_48 rfl rfl) (e_iload_n (k0 := 2) d_Laws_combined_49 rfl rfl) d_Laws_combined_50)) rfl d_Laws_combined_51)))
/-! BlinkerCross$Laws.value(I)I -/
abbrev y_Laws_value : MethodName := ⟨"BlinkerCross$Laws", "value", "(I)I"⟩
abbrev Y_Laws_value : Yt := (prog_5_method_14_code, 9, "BlinkerCross$Laws", 1, (some .int), "value")
theorem d_Laws_value_0 : decode prog_5_method_14_code 0 = .ok (.iconst 0, 1) := by decide +kernel
theorem d_Laws_value_1 : decode prog_5_method_14_code 1 = .ok (.istore_n 2, 1) := by decide +kernel
theorem d_Laws_value_2 : decode prog_5_method_14_code 2 = .ok (.aload_n 0, 1) := by decide +kernel
theorem d_Laws_value_3 : decode prog_5_method_14_code 3 = .ok (.getfield 18, 3) := by decide +kernel
theorem d_Laws_value_6 : decode prog_5_method_14_code 6 = .ok (.getfield 91, 3) := by decide +kernel
theorem d_Laws_value_9 : decode prog_5_method_14_code 9 = .ok (.iload_n 1, 1) := by decide +kernel
theorem d_Laws_value_10 : decode prog_5_method_14_code 10 = .ok (.iaload, 1) := by decide +kernel
theorem d_Laws_value_11 : decode prog_5_method_14_code 11 = .ok (.istore_n 3, 1) := by decide +kernel
theorem d_Laws_value_12 : decode prog_5_method_14_code 12 = .ok (.iconst 0, 1) := by decide +kernel
theorem d_Laws_value_13 : decode prog_5_method_14_code 13 = .ok (.istore 4, 2) := by decide +kernel
theorem d_Laws_value_15 : decode prog_5_method_14_code 15 = .ok (.iload 4, 2) := by decide +kernel
theorem d_Laws_value_17 : decode prog_5_method_14_code 17 = .ok (.sipush 408, 3) := by decide +kernel
theorem d_Laws_value_20 : decode prog_5_method_14_code 20 = .ok (.if_icmp .ge 221, 3) := by decide +kernel
theorem d_Laws_value_23 : decode prog_5_method_14_code 23 = .ok (.iload_n 3, 1) := by decide +kernel
theorem d_Laws_value_24 : decode prog_5_method_14_code 24 = .ok (.ifCond .lt 217, 3) := by decide +kernel
theorem d_Laws_value_27 : decode prog_5_method_14_code 27 = .ok (.iload_n 3, 1) := by decide +kernel
theorem d_Laws_value_28 : decode prog_5_method_14_code 28 = .ok (.aload_n 0, 1) := by decide +kernel
theorem d_Laws_value_29 : decode prog_5_method_14_code 29 = .ok (.getfield 18, 3) := by decide +kernel
theorem d_Laws_value_32 : decode prog_5_method_14_code 32 = .ok (.getfield 94, 3) := by decide +kernel
theorem d_Laws_value_35 : decode prog_5_method_14_code 35 = .ok (.if_icmp .ge 206, 3) := by decide +kernel
theorem d_Laws_value_38 : decode prog_5_method_14_code 38 = .ok (.iload_n 2, 1) := by decide +kernel
theorem d_Laws_value_39 : decode prog_5_method_14_code 39 = .ok (.bipush 32, 2) := by decide +kernel
theorem d_Laws_value_41 : decode prog_5_method_14_code 41 = .ok (.if_icmp .ge 200, 3) := by decide +kernel
theorem d_Laws_value_44 : decode prog_5_method_14_code 44 = .ok (.aload_n 0, 1) := by decide +kernel
theorem d_Laws_value_45 : decode prog_5_method_14_code 45 = .ok (.getfield 18, 3) := by decide +kernel
theorem d_Laws_value_48 : decode prog_5_method_14_code 48 = .ok (.getfield 97, 3) := by decide +kernel
theorem d_Laws_value_51 : decode prog_5_method_14_code 51 = .ok (.iload_n 3, 1) := by decide +kernel
theorem d_Laws_value_52 : decode prog_5_method_14_code 52 = .ok (.iaload, 1) := by decide +kernel
theorem d_Laws_value_53 : decode prog_5_method_14_code 53 = .ok (.istore 5, 2) := by decide +kernel
theorem d_Laws_value_55 : decode prog_5_method_14_code 55 = .ok (.aload_n 0, 1) := by decide +kernel
theorem d_Laws_value_56 : decode prog_5_method_14_code 56 = .ok (.getfield 18, 3) := by decide +kernel
theorem d_Laws_value_59 : decode prog_5_method_14_code 59 = .ok (.getfield 100, 3) := by decide +kernel
theorem d_Laws_value_62 : decode prog_5_method_14_code 62 = .ok (.iload_n 3, 1) := by decide +kernel
theorem d_Laws_value_63 : decode prog_5_method_14_code 63 = .ok (.iaload, 1) := by decide +kernel
theorem d_Laws_value_64 : decode prog_5_method_14_code 64 = .ok (.istore 6, 2) := by decide +kernel
theorem d_Laws_value_66 : decode prog_5_method_14_code 66 = .ok (.iinc 3 1, 3) := by decide +kernel
theorem d_Laws_value_69 : decode prog_5_method_14_code 69 = .ok (.iload 5, 2) := by decide +kernel
theorem d_Laws_value_71 : decode prog_5_method_14_code 71 = .ok (.iconst 3, 1) := by decide +kernel
theorem d_Laws_value_72 : decode prog_5_method_14_code 72 = .ok (.if_icmp .ne 20, 3) := by decide +kernel
theorem d_Laws_value_75 : decode prog_5_method_14_code 75 = .ok (.iload_n 2, 1) := by decide +kernel
theorem d_Laws_value_76 : decode prog_5_method_14_code 76 = .ok (.ifCond .le 14, 3) := by decide +kernel
theorem d_Laws_value_79 : decode prog_5_method_14_code 79 = .ok (.aload_n 0, 1) := by decide +kernel
theorem d_Laws_value_80 : decode prog_5_method_14_code 80 = .ok (.getfield 15, 3) := by decide +kernel
theorem d_Laws_value_83 : decode prog_5_method_14_code 83 = .ok (.iload_n 2, 1) := by decide +kernel
theorem d_Laws_value_84 : decode prog_5_method_14_code 84 = .ok (.iconst 1, 1) := by decide +kernel
theorem d_Laws_value_85 : decode prog_5_method_14_code 85 = .ok (.isub, 1) := by decide +kernel
theorem d_Laws_value_86 : decode prog_5_method_14_code 86 = .ok (.iaload, 1) := by decide +kernel
theorem d_Laws_value_87 : decode prog_5_method_14_code 87 = .ok (.goto 4, 3) := by decide +kernel
theorem d_Laws_value_90 : decode prog_5_method_14_code 90 = .ok (.iconst 0, 1) := by decide +kernel
theorem d_Laws_value_91 : decode prog_5_method_14_code 91 = .ok (.ireturn, 1) := by decide +kernel
theorem d_Laws_value_92 : decode prog_5_method_14_code 92 = .ok (.iload 5, 2) := by decide +kernel
theorem d_Laws_value_94 : decode prog_5_method_14_code 94 = .ok (.ifCond .ne 17, 3) := by decide +kernel
theorem d_Laws_value_97 : decode prog_5_method_14_code 97 = .ok (.aload_n 0, 1) := by decide +kernel
theorem d_Laws_value_98 : decode prog_5_method_14_code 98 = .ok (.getfield 15, 3) := by decide +kernel
theorem d_Laws_value_101 : decode prog_5_method_14_code 101 = .ok (.iload_n 2, 1) := by decide +kernel
theorem d_Laws_value_102 : decode prog_5_method_14_code 102 = .ok (.iload 6, 2) := by decide +kernel
theorem d_Laws_value_104 : decode prog_5_method_14_code 104 = .ok (.iastore, 1) := by decide +kernel
theorem d_Laws_value_105 : decode prog_5_method_14_code 105 = .ok (.iinc 2 1, 3) := by decide +kernel
theorem d_Laws_value_108 : decode prog_5_method_14_code 108 = .ok (.goto 127, 3) := by decide +kernel
theorem d_Laws_value_111 : decode prog_5_method_14_code 111 = .ok (.iload 5, 2) := by decide +kernel
theorem d_Laws_value_113 : decode prog_5_method_14_code 113 = .ok (.iconst 1, 1) := by decide +kernel
theorem d_Laws_value_114 : decode prog_5_method_14_code 114 = .ok (.if_icmp .ne 38, 3) := by decide +kernel
theorem d_Laws_value_117 : decode prog_5_method_14_code 117 = .ok (.aload_n 0, 1) := by decide +kernel
theorem d_Laws_value_118 : decode prog_5_method_14_code 118 = .ok (.getfield 15, 3) := by decide +kernel
theorem d_Laws_value_121 : decode prog_5_method_14_code 121 = .ok (.iload_n 2, 1) := by decide +kernel
theorem d_Laws_value_122 : decode prog_5_method_14_code 122 = .ok (.iload 6, 2) := by decide +kernel
theorem d_Laws_value_124 : decode prog_5_method_14_code 124 = .ok (.ifCond .lt 20, 3) := by decide +kernel
theorem d_Laws_value_127 : decode prog_5_method_14_code 127 = .ok (.iload 6, 2) := by decide +kernel
theorem d_Laws_value_129 : decode prog_5_method_14_code 129 = .ok (.bipush 9, 2) := by decide +kernel
theorem d_Laws_value_131 : decode prog_5_method_14_code 131 = .ok (.if_icmp .ge 13, 3) := by decide +kernel
theorem d_Laws_value_134 : decode prog_5_method_14_code 134 = .ok (.aload_n 0, 1) := by decide +kernel
theorem d_Laws_value_135 : decode prog_5_method_14_code 135 = .ok (.getfield 9, 3) := by decide +kernel
theorem d_Laws_value_138 : decode prog_5_method_14_code 138 = .ok (.iload 6, 2) := by decide +kernel
theorem d_Laws_value_140 : decode prog_5_method_14_code 140 = .ok (.iaload, 1) := by decide +kernel
theorem d_Laws_value_141 : decode prog_5_method_14_code 141 = .ok (.goto 4, 3) := by decide +kernel
theorem d_Laws_value_144 : decode prog_5_method_14_code 144 = .ok (.iconst 0, 1) := by decide +kernel
theorem d_Laws_value_145 : decode prog_5_method_14_code 145 = .ok (.iastore, 1) := by decide +kernel
theorem d_Laws_value_146 : decode prog_5_method_14_code 146 = .ok (.iinc 2 1, 3) := by decide +kernel
theorem d_Laws_value_149 : decode prog_5_method_14_code 149 = .ok (.goto 86, 3) := by decide +kernel
theorem d_Laws_value_152 : decode prog_5_method_14_code 152 = .ok (.iload_n 2, 1) := by decide +kernel
theorem d_Laws_value_153 : decode prog_5_method_14_code 153 = .ok (.iconst 2, 1) := by decide +kernel
theorem d_Laws_value_154 : decode prog_5_method_14_code 154 = .ok (.if_icmp .ge 5, 3) := by decide +kernel
theorem d_Laws_value_157 : decode prog_5_method_14_code 157 = .ok (.iconst 0, 1) := by decide +kernel
theorem d_Laws_value_158 : decode prog_5_method_14_code 158 = .ok (.ireturn, 1) := by decide +kernel
theorem d_Laws_value_159 : decode prog_5_method_14_code 159 = .ok (.iinc 2 (-2), 3) := by decide +kernel
theorem d_Laws_value_162 : decode prog_5_method_14_code 162 = .ok (.aload_n 0, 1) := by decide +kernel
theorem d_Laws_value_163 : decode prog_5_method_14_code 163 = .ok (.getfield 15, 3) := by decide +kernel
theorem d_Laws_value_166 : decode prog_5_method_14_code 166 = .ok (.iload_n 2, 1) := by decide +kernel
theorem d_Laws_value_167 : decode prog_5_method_14_code 167 = .ok (.iaload, 1) := by decide +kernel
theorem d_Laws_value_168 : decode prog_5_method_14_code 168 = .ok (.istore 7, 2) := by decide +kernel
theorem d_Laws_value_170 : decode prog_5_method_14_code 170 = .ok (.aload_n 0, 1) := by decide +kernel
theorem d_Laws_value_171 : decode prog_5_method_14_code 171 = .ok (.getfield 15, 3) := by decide +kernel
theorem d_Laws_value_174 : decode prog_5_method_14_code 174 = .ok (.iload_n 2, 1) := by decide +kernel
theorem d_Laws_value_175 : decode prog_5_method_14_code 175 = .ok (.iconst 1, 1) := by decide +kernel
theorem d_Laws_value_176 : decode prog_5_method_14_code 176 = .ok (.iadd, 1) := by decide +kernel
theorem d_Laws_value_177 : decode prog_5_method_14_code 177 = .ok (.iaload, 1) := by decide +kernel
theorem d_Laws_value_178 : decode prog_5_method_14_code 178 = .ok (.istore 8, 2) := by decide +kernel
theorem d_Laws_value_180 : decode prog_5_method_14_code 180 = .ok (.iload 5, 2) := by decide +kernel
theorem d_Laws_value_182 : decode prog_5_method_14_code 182 = .ok (.iconst 2, 1) := by decide +kernel
theorem d_Laws_value_183 : decode prog_5_method_14_code 183 = .ok (.if_icmp .ne 20, 3) := by decide +kernel
theorem d_Laws_value_186 : decode prog_5_method_14_code 186 = .ok (.iload 7, 2) := by decide +kernel
theorem d_Laws_value_188 : decode prog_5_method_14_code 188 = .ok (.iload 8, 2) := by decide +kernel
theorem d_Laws_value_190 : decode prog_5_method_14_code 190 = .ok (.if_icmp .ge 7, 3) := by decide +kernel
theorem d_Laws_value_193 : decode prog_5_method_14_code 193 = .ok (.iload_n 3, 1) := by decide +kernel
theorem d_Laws_value_194 : decode prog_5_method_14_code 194 = .ok (.goto 5, 3) := by decide +kernel
theorem d_Laws_value_197 : decode prog_5_method_14_code 197 = .ok (.iload 6, 2) := by decide +kernel
theorem d_Laws_value_199 : decode prog_5_method_14_code 199 = .ok (.istore_n 3, 1) := by decide +kernel
theorem d_Laws_value_200 : decode prog_5_method_14_code 200 = .ok (.goto 35, 3) := by decide +kernel
theorem d_Laws_value_203 : decode prog_5_method_14_code 203 = .ok (.iload 5, 2) := by decide +kernel
theorem d_Laws_value_205 : decode prog_5_method_14_code 205 = .ok (.bipush 7, 2) := by decide +kernel
theorem d_Laws_value_207 : decode prog_5_method_14_code 207 = .ok (.if_icmp .ne 10, 3) := by decide +kernel
theorem d_Laws_value_210 : decode prog_5_method_14_code 210 = .ok (.iload 8, 2) := by decide +kernel
theorem d_Laws_value_212 : decode prog_5_method_14_code 212 = .ok (.ifCond .ne 5, 3) := by decide +kernel
theorem d_Laws_value_215 : decode prog_5_method_14_code 215 = .ok (.iconst 0, 1) := by decide +kernel
theorem d_Laws_value_216 : decode prog_5_method_14_code 216 = .ok (.ireturn, 1) := by decide +kernel
theorem d_Laws_value_217 : decode prog_5_method_14_code 217 = .ok (.aload_n 0, 1) := by decide +kernel
theorem d_Laws_value_218 : decode prog_5_method_14_code 218 = .ok (.getfield 15, 3) := by decide +kernel
theorem d_Laws_value_221 : decode prog_5_method_14_code 221 = .ok (.iload_n 2, 1) := by decide +kernel
theorem d_Laws_value_222 : decode prog_5_method_14_code 222 = .ok (.iload 5, 2) := by decide +kernel
theorem d_Laws_value_224 : decode prog_5_method_14_code 224 = .ok (.iload 7, 2) := by decide +kernel
theorem d_Laws_value_226 : decode prog_5_method_14_code 226 = .ok (.iload 8, 2) := by decide +kernel
theorem d_Laws_value_228 : decode prog_5_method_14_code 228 = .ok (.invokestatic 103, 3) := by decide +kernel
theorem d_Laws_value_231 : decode prog_5_method_14_code 231 = .ok (.iastore, 1) := by decide +kernel
theorem d_Laws_value_232 : decode prog_5_method_14_code 232 = .ok (.iinc 2 1, 3) := by decide +kernel
theorem d_Laws_value_235 : decode prog_5_method_14_code 235 = .ok (.iinc 4 1, 3) := by decide +kernel
theorem d_Laws_value_238 : decode prog_5_method_14_code 238 = .ok (.goto (-223), 3) := by decide +kernel
theorem d_Laws_value_241 : decode prog_5_method_14_code 241 = .ok (.iconst 0, 1) := by decide +kernel
theorem d_Laws_value_242 : decode prog_5_method_14_code 242 = .ok (.ireturn, 1) := by decide +kernel
noncomputable def Lc_Laws_value_1 : Xp Bool := cAnd (cAnd (cAnd (o2 (fun x y => decide (x < y)) (vI 4) (kI (ii 408))) (o1 (fun x => decide (x ≥ 0)) (vI 3))) (o2 (fun x y => decide (x < y)) (vI 3) (gI 2 10 (gR 5 0 (vR 0))))) (o2 (fun x y => decide (x < y)) (vI 2) (kI (ii 32)))
noncomputable def Lb_Laws_value_1 : Sm := sBlk 5 (sSeq (sDecl (asV Value.int (aI 0 (gR 2 8 (gR 5 0 (vR 0))) (vI 3)))) (sSeq (sDecl (asV Value.int (aI 0 (gR 2 9 (gR 5 0 (vR 0))) (vI 3)))) (sSeq (sInc 3 (ii 1)) (sSeq (sIf (o2 (fun x y => decide (x = y)) (vI 5) (kI (ii 3))) (sRet (asV Value.int (iX (o1 (fun x => decide (x > 0)) (vI 2)) (aI 0 (gR 5 2 (vR 0)) (o2 (fun x y => x - y) (vI 2) (kI (ii 1)))) (kI (ii 0))))) (sSkip)) (sIf (o1 (fun x => decide (x = 0)) (vI 5)) (sSeq (sAst 0 (gR 5 2 (vR 0)) (vI 2) (vI 6)) (sInc 2 (ii 1))) (sIf (o2 (fun x y => decide (x = y)) (vI 5) (kI (ii 1))) (sSeq (sAst 0 (gR 5 2 (vR 0)) (vI 2) (iX (cAnd (o1 (fun x => decide (x ≥ 0)) (vI 6)) (o2 (fun x y => decide (x < y)) (vI 6) (kI (ii 9)))) (aI 0 (gR 5 1 (vR 0)) (vI 6)) (kI (ii 0)))) (sInc 2 (ii 1))) (sBlk 7 (sSeq (sIf (o2 (fun x y => decide (x < y)) (vI 2) (kI (ii 2))) (sRet (asV Value.int (kI (ii 0)))) (sSkip)) (sSeq (sInc 2 (ii (-2))) (sSeq (sDecl (asV Value.int (aI 0 (gR 5 2 (vR 0)) (vI 2)))) (sSeq (sDecl (asV Value.int (aI 0 (gR 5 2 (vR 0)) (o2 (fun x y => x + y) (vI 2) (kI (ii 1)))))) (sIf (o2 (fun x y => decide (x = y)) (vI 5) (kI (ii 2))) (sSet 3 (asV Value.int (iX (o2 (fun x y => decide (x < y)) (vI 7) (vI 8)) (vI 3) (vI 6)))) (sIf (cAnd (o2 (fun x y => decide (x = y)) (vI 5) (kI (ii 7))) (o1 (fun x => decide (x = 0)) (vI 8))) (sRet (asV Value.int (kI (ii 0)))) (sSeq (sAst 0 (gR 5 2 (vR 0)) (vI 2) (cI (D_Laws_combined) [asV Value.int (vI 5), asV Value.int (vI 7), asV Value.int (vI 8)])) (sInc 2 (ii 1))))))))))))))))
noncomputable def Lu_Laws_value_1 : Sm := sInc 4 (ii 1)
noncomputable def F_Laws_value : Sm := sSeq (sDecl (asV Value.int (kI (ii 0)))) (sSeq (sDecl (asV Value.int (aI 0 (gR 2 7 (gR 5 0 (vR 0))) (vI 1)))) (sSeq (sBlk 4 (sSeq (sDecl (asV Value.int (kI (ii 0)))) (sWh (Lc_Laws_value_1) (Lb_Laws_value_1) Lu_Laws_value_1))) (sRet (asV Value.int (kI (ii 0))))))
theorem mf_Laws_value : Mf y_Laws_value prog_5_method_14_code 9 (some .int) 1 := ⟨tw_939, tw_127, by decide +kernel⟩
noncomputable def D_Laws_value : Dn := runS [1, 1] F_Laws_value
theorem ok_Laws_value : MOK y_Laws_value prog_5_method_14_code 9 (some .int) 1 0 0 D_Laws_value := MOK.of (by decide) (by decide) (show SO Y_Laws_value [(0, 1), (1, 1)] [(0, 1), (1, 1), (2, 1), (3, 1)] 0 243 (([], 0), ([], 0)) F_Laws_value from
  (s_seq (sl1 := [(0, 1), (1, 1), (2, 1)]) (p1 := 2) (s_decl (p1 := 1) (e_iconst d_Laws_value_0 (by decide)) (t_istore_n d_Laws_value_1 rfl (by decide)) rfl) (s_seq (sl1 := [(0, 1), (1, 1), (2, 1), (3, 1)]) (p1 := 12) (s_decl (p1 := 11) (e_iald (p1 := 9) (p2 := 10) (e_gR (k0 := 7) (p1 := 6) cf_2 (e_gR (k0 := 0) (p1 := 3) cf_5 (e_aload_n (k0 := 0) d_Laws_value_2 rfl rfl) (by decide) tw_351 d_Laws_value_3) (by decide) tw_232 d_Laws_value_6) (e_iload_n (k0 := 1) d_Laws_value_9 rfl rfl) d_Laws_value_10) (t_istore_n d_Laws_value_11 rfl (by decide)) rfl) (s_seq (sl1 := [(0, 1), (1, 1), (2, 1), (3, 1)]) (p1 := 241) (s_blk (sl1 := [(0, 1), (1, 1), (2, 1), (3, 1), (4, 1)]) (s_seq (sl1 := [(0, 1), (1, 1), (2, 1), (3, 1), (4, 1)]) (p1 := 15) (s_decl (p1 := 13) (e_iconst d_Laws_value_12 (by decide)) (t_istore d_Laws_value_13 (by decide)) rfl) (s_for (pt := 44) (pu := 235) (pf := 241) (pg := 0) (c_and (p1 := 38) (c_and (p1 := 27) (c_and (p1 := 23) (c_icmp_geF (p1 := 17) (p2 := 20) (tg := 241) (e_iload (k0 := 4) d_Laws_value_15 rfl) (e_sipush d_Laws_value_17 (by decide)) d_Laws_value_20 rfl) (c_if_ltF (p1 := 24) (tg := 241) (e_iload_n (k0 := 3) d_Laws_value_23 rfl rfl) d_Laws_value_24 rfl)) (c_icmp_geF (p1 := 28) (p2 := 35) (tg := 241) (e_iload_n (k0 := 3) d_Laws_value_27 rfl rfl) (e_gI (k0 := 10) (p1 := 32) cf_2 (e_gR (k0 := 0) (p1 := 29) cf_5 (e_aload_n (k0 := 0) d_Laws_value_28 rfl rfl) (by decide) tw_351 d_Laws_value_29) (by decide) tw_239 d_Laws_value_32) d_Laws_value_35 rfl)) (c_icmp_geF (p1 := 39) (p2 := 41) (tg := 241) (e_iload_n (k0 := 2) d_Laws_value_38 rfl rfl) (e_bipush d_Laws_value_39 (by decide)) d_Laws_value_41 rfl)) (s_blk (sl1 := [(0, 1), (1, 1), (2, 1), (3, 1), (4, 1), (5, 1), (6, 1)]) (s_seq (sl1 := [(0, 1), (1, 1), (2, 1), (3, 1), (4, 1), (5, 1)]) (p1 := 55) (s_decl (p1 := 53) (e_iald (p1 := 51) (p2 := 52) (e_gR (k0 := 8) (p1 := 48) cf_2 (e_gR (k0 := 0) (p1 := 45) cf_5 (e_aload_n (k0 := 0) d_Laws_value_44 rfl rfl) (by decide) tw_351 d_Laws_value_45) (by decide) tw_234 d_Laws_value_48) (e_iload_n (k0 := 3) d_Laws_value_51 rfl rfl) d_Laws_value_52) (t_istore d_Laws_value_53 (by decide)) rfl) (s_seq (sl1 := [(0, 1), (1, 1), (2, 1), (3, 1), (4, 1), (5, 1), (6, 1)]) (p1 := 66) (s_decl (p1 := 64) (e_iald (p1 := 62) (p2 := 63) (e_gR (k0 := 9) (p1 := 59) cf_2 (e_gR (k0 := 0) (p1 := 56) cf_5 (e_aload_n (k0 := 0) d_Laws_value_55 rfl rfl) (by decide) tw_351 d_Laws_value_56) (by decide) tw_236 d_Laws_value_59) (e_iload_n (k0 := 3) d_Laws_value_62 rfl rfl) d_Laws_value_63) (t_istore d_Laws_value_64 (by decide)) rfl) (s_seq (sl1 := [(0, 1), (1, 1), (2, 1), (3, 1), (4, 1), (5, 1), (6, 1)]) (p1 := 69) (s_inc (k0 := 3) d_Laws_value_66 rfl rfl (Nat.le_of_ble_eq_true rfl) rfl) (s_seq (sl1 := [(0, 1), (1, 1), (2, 1), (3, 1), (4, 1), (5, 1), (6, 1)]) (p1 := 92) (s_if (pt := 75) (pf := 92) (c_icmp_neF (p1 := 71) (p2 := 72) (tg := 92) (e_iload (k0 := 5) d_Laws_value_69 rfl) (e_iconst d_Laws_value_71 (by decide)) d_Laws_value_72 rfl) (s_ret (p1 := 91) (e_ite (pt := 79) (p1 := 87) (pf := 90) (c_if_leF (p1 := 76) (tg := 90) (e_iload_n (k0 := 2) d_Laws_value_75 rfl rfl) d_Laws_value_76 rfl) (e_iald (p1 := 83) (p2 := 86) (e_gR (k0 := 2) (p1 := 80) cf_5 (e_aload_n (k0 := 0) d_Laws_value_79 rfl rfl) (by decide) tw_353 d_Laws_value_80) (e_isub (p1 := 84) (p2 := 85) (e_iload_n (k0 := 2) d_Laws_value_83 rfl rfl) (e_iconst d_Laws_value_84 (by decide)) d_Laws_value_85) d_Laws_value_86) d_Laws_value_87 rfl (e_iconst d_Laws_value_90 (by decide))) rfl d_Laws_value_91) s_skip) (s_if (pt := 97) (pf := 111) (p1 := 235) (c_if_neF (p1 := 94) (tg := 111) (e_iload (k0 := 5) d_Laws_value_92 rfl) d_Laws_value_94 rfl) (s_seq (sl1 := [(0, 1), (1, 1), (2, 1), (3, 1), (4, 1), (5, 1), (6, 1)]) (p1 := 105) (s_ast (p1 := 101) (p2 := 102) (p3 := 104) (e_gR (k0 := 2) (p1 := 98) cf_5 (e_aload_n (k0 := 0) d_Laws_value_97 rfl rfl) (by decide) tw_353 d_Laws_value_98) (e_iload_n (k0 := 2) d_Laws_value_101 rfl rfl) (e_iload (k0 := 6) d_Laws_value_102 rfl) (as_i d_Laws_value_104)) (s_goto (p1 := 108) (s_inc (k0 := 2) d_Laws_value_105 rfl rfl (Nat.le_of_ble_eq_true rfl) rfl) d_Laws_value_108 rfl)) (s_if (pt := 117) (pf := 152) (p1 := 235) (c_icmp_neF (p1 := 113) (p2 := 114) (tg := 152) (e_iload (k0 := 5) d_Laws_value_111 rfl) (e_iconst d_Laws_value_113 (by decide)) d_Laws_value_114 rfl) (s_seq (sl1 := [(0, 1), (1, 1), (2, 1), (3, 1), (4, 1), (5, 1), (6, 1)]) (p1 := 146) (s_ast (p1 := 121) (p2 := 122) (p3 := 145) (e_gR (k0 := 2) (p1 := 118) cf_5 (e_aload_n (k0 := 0) d_Laws_value_117 rfl rfl) (by decide) tw_353 d_Laws_value_118) (e_iload_n (k0 := 2) d_Laws_value_121 rfl rfl) (e_ite (pt := 134) (p1 := 141) (pf := 144) (c_and (p1 := 127) (c_if_ltF (p1 := 124) (tg := 144) (e_iload (k0 := 6) d_Laws_value_122 rfl) d_Laws_value_124 rfl) (c_icmp_geF (p1 := 129) (p2 := 131) (tg := 144) (e_iload (k0 := 6) d_Laws_value_127 rfl) (e_bipush d_Laws_value_129 (by decide)) d_Laws_value_131 rfl)) (e_iald (p1 := 138) (p2 := 140) (e_gR (k0 := 1) (p1 := 135) cf_5 (e_aload_n (k0 := 0) d_Laws_value_134 rfl rfl) (by decide) tw_352 d_Laws_value_135) (e_iload (k0 := 6) d_Laws_value_138 rfl) d_Laws_value_140) d_Laws_value_141 rfl (e_iconst d_Laws_value_144 (by decide))) (as_i d_Laws_value_145)) (s_goto (p1 := 149) (s_inc (k0 := 2) d_Laws_value_146 rfl rfl (Nat.le_of_ble_eq_true rfl) rfl) d_Laws_value_149 rfl)) (s_blk (sl1 := [(0, 1), (1, 1), (2, 1), (3, 1), (4, 1), (5, 1), (6, 1), (7, 1), (8, 1)]) (s_seq (sl1 := [(0, 1), (1, 1), (2, 1), (3, 1), (4, 1), (5, 1), (6, 1)]) (p1 := 159) (s_if (pt := 157) (pf := 159) (c_icmp_geF (p1 := 153) (p2 := 154) (tg := 159) (e_iload_n (k0 := 2) d_Laws_value_152 rfl rfl) (e_iconst d_Laws_value_153 (by decide)) d_Laws_value_154 rfl) (s_ret (p1 := 158) (e_iconst d_Laws_value_157 (by decide)) rfl d_Laws_value_158) s_skip) (s_seq (sl1 := [(0, 1), (1, 1), (2, 1), (3, 1), (4, 1), (5, 1), (6, 1)]) (p1 := 162) (s_inc (k0 := 2) d_Laws_value_159 rfl rfl (Nat.le_of_ble_eq_true rfl) rfl) (s_seq (sl1 := [(0, 1), (1, 1), (2, 1), (3, 1), (4, 1), (5, 1), (6, 1), (7, 1)]) (p1 := 170) (s_decl (p1 := 168) (e_iald (p1 := 166) (p2 := 167) (e_gR (k0 := 2) (p1 := 163) cf_5 (e_aload_n (k0 := 0) d_Laws_value_162 rfl rfl) (by decide) tw_353 d_Laws_value_163) (e_iload_n (k0 := 2) d_Laws_value_166 rfl rfl) d_Laws_value_167) (t_istore d_Laws_value_168 (by decide)) rfl) (s_seq (sl1 := [(0, 1), (1, 1), (2, 1), (3, 1), (4, 1), (5, 1), (6, 1), (7, 1), (8, 1)]) (p1 := 180) (s_decl (p1 := 178) (e_iald (p1 := 174) (p2 := 177) (e_gR (k0 := 2) (p1 := 171) cf_5 (e_aload_n (k0 := 0) d_Laws_value_170 rfl rfl) (by decide) tw_353 d_Laws_value_171) (e_iadd (p1 := 175) (p2 := 176) (e_iload_n (k0 := 2) d_Laws_value_174 rfl rfl) (e_iconst d_Laws_value_175 (by decide)) d_Laws_value_176) d_Laws_value_177) (t_istore d_Laws_value_178 (by decide)) rfl) (s_if (pt := 186) (pf := 203) (p1 := 235) (c_icmp_neF (p1 := 182) (p2 := 183) (tg := 203) (e_iload (k0 := 5) d_Laws_value_180 rfl) (e_iconst d_Laws_value_182 (by decide)) d_Laws_value_183 rfl) (s_goto (p1 := 200) (s_set (k0 := 3) (p1 := 199) (e_ite (pt := 193) (p1 := 194) (pf := 197) (c_icmp_geF (p1 := 188) (p2 := 190) (tg := 197) (e_iload (k0 := 7) d_Laws_value_186 rfl) (e_iload (k0 := 8) d_Laws_value_188 rfl) d_Laws_value_190 rfl) (e_iload_n (k0 := 3) d_Laws_value_193 rfl rfl) d_Laws_value_194 rfl (e_iload (k0 := 6) d_Laws_value_197 rfl)) (t_istore_n d_Laws_value_199 rfl (by decide)) rfl rfl) d_Laws_value_200 rfl) (s_if (pt := 215) (pf := 217) (p1 := 235) (c_and (p1 := 210) (c_icmp_neF (p1 := 205) (p2 := 207) (tg := 217) (e_iload (k0 := 5) d_Laws_value_203 rfl) (e_bipush d_Laws_value_205 (by decide)) d_Laws_value_207 rfl) (c_if_neF (p1 := 212) (tg := 217) (e_iload (k0 := 8) d_Laws_value_210 rfl) d_Laws_value_212 rfl)) (s_ret (p1 := 216) (e_iconst d_Laws_value_215 (by decide)) rfl d_Laws_value_216) (s_seq (sl1 := [(0, 1), (1, 1), (2, 1), (3, 1), (4, 1), (5, 1), (6, 1), (7, 1), (8, 1)]) (p1 := 232) (s_ast (p1 := 221) (p2 := 222) (p3 := 231) (e_gR (k0 := 2) (p1 := 218) cf_5 (e_aload_n (k0 := 0) d_Laws_value_217 rfl rfl) (by decide) tw_353 d_Laws_value_218) (e_iload_n (k0 := 2) d_Laws_value_221 rfl rfl) (e_cI (p1 := 228) (a_cons (ι := Value.int) (k0 := 1) (p1 := 224) (fun _ => rfl) (e_iload (k0 := 5) d_Laws_value_222 rfl) (a_cons (ι := Value.int) (k0 := 1) (p1 := 226) (fun _ => rfl) (e_iload (k0 := 7) d_Laws_value_224 rfl) (a_cons (ι := Value.int) (k0 := 1) (p1 := 228) (fun _ => rfl) (e_iload (k0 := 8) d_Laws_value_226 rfl) a_nil))) (k_stat ok_Laws_combined mf_Laws_combined tw_941 tw_940 d_Laws_value_228 (by decide) (by decide) (by decide))) (as_i d_Laws_value_231)) (s_inc (k0 := 2) d_Laws_value_232 rfl rfl (Nat.le_of_ble_eq_true rfl) rfl)))))))) rfl))))))) rfl) (s_goto (p1 := 238) (s_inc (k0 := 4) d_Laws_value_235 rfl rfl (Nat.le_of_ble_eq_true rfl) rfl) d_Laws_value_238 rfl))) rfl) (s_ret (p1 := 242) (e_iconst d_Laws_value_241 (by decide)) rfl d_Laws_value_242)))))
/-! BlinkerCross$Laws.heldStands()I -/
abbrev y_Laws_heldStands : MethodName := ⟨"BlinkerCross$Laws", "heldStands", "()I"⟩
abbrev Y_Laws_heldStands : Yt := (prog_5_method_3_code, 1, "BlinkerCross$Laws", 2, (some .int), "heldStands")
theorem d_Laws_heldStands_0 : decode prog_5_method_3_code 0 = .ok (.aload_n 0, 1) := by decide +kernel
theorem d_Laws_heldStands_1 : decode prog_5_method_3_code 1 = .ok (.iconst 0, 1) := by decide +kernel
theorem d_Laws_heldStands_2 : decode prog_5_method_3_code 2 = .ok (.invokevirtual 45, 3) := by decide +kernel
theorem d_Laws_heldStands_5 : decode prog_5_method_3_code 5 = .ok (.bipush 99, 2) := by decide +kernel
theorem d_Laws_heldStands_7 : decode prog_5_method_3_code 7 = .ok (.invokestatic 48, 3) := by decide +kernel
theorem d_Laws_heldStands_10 : decode prog_5_method_3_code 10 = .ok (.ireturn, 1) := by decide +kernel
noncomputable def F_Laws_heldStands : Sm := sRet (asV Value.int (cI (D_X_heldTo) [asV Value.int (cI (mV 5 D_Laws_value) [asV Value.ref (vR 0), asV Value.int (kI (ii 0))]), asV Value.int (kI (ii 99))]))
theorem mf_Laws_heldStands : Mf y_Laws_heldStands prog_5_method_3_code 1 (some .int) 0 := ⟨tw_935, tw_127, by decide +kernel⟩
noncomputable def D_Laws_heldStands : Dn := runS [1] F_Laws_heldStands
theorem ok_Laws_heldStands : MOK y_Laws_heldStands prog_5_method_3_code 1 (some .int) 2 0 0 D_Laws_heldStands := MOK.of (by decide) (by decide) (show SO Y_Laws_heldStands [(0, 1)] [(0, 1)] 0 11 (([], 0), ([], 0)) F_Laws_heldStands from
  (s_ret (p1 := 10) (e_cI (p1 := 7) (a_cons (ι := Value.int) (k0 := 1) (p1 := 5) (fun _ => rfl) (e_cI (p1 := 2) (a_cons (ι := Value.ref) (k0 := 1) (p1 := 1) (fun _ => rfl) (e_aload_n (k0 := 0) d_Laws_heldStands_0 rfl rfl) (a_cons (ι := Value.int) (k0 := 1) (p1 := 2) (fun _ => rfl) (e_iconst d_Laws_heldStands_1 (by decide)) a_nil)) (k_virt ok_Laws_value mf_Laws_value ⟨tw_938, tw_26⟩ rfl tw_936 d_Laws_heldStands_2 (by decide) (by decide) (by decide))) (a_cons (ι := Value.int) (k0 := 1) (p1 := 7) (fun _ => rfl) (e_bipush d_Laws_heldStands_5 (by decide)) a_nil)) (k_heldTo ok_X_heldTo mf_X_heldTo tw_944 rfl d_Laws_heldStands_7 (by decide) (by decide) (by decide))) rfl d_Laws_heldStands_10))
/-! BlinkerCross$Laws.isKeeping()Z -/
abbrev y_Laws_isKeeping : MethodName := ⟨"BlinkerCross$Laws", "isKeeping", "()Z"⟩
abbrev Y_Laws_isKeeping : Yt := (prog_5_method_4_code, 1, "BlinkerCross$Laws", 2, (some .boolean), "isKeeping")
theorem d_Laws_isKeeping_0 : decode prog_5_method_4_code 0 = .ok (.aload_n 0, 1) := by decide +kernel
theorem d_Laws_isKeeping_1 : decode prog_5_method_4_code 1 = .ok (.iconst 2, 1) := by decide +kernel
theorem d_Laws_isKeeping_2 : decode prog_5_method_4_code 2 = .ok (.invokevirtual 45, 3) := by decide +kernel
theorem d_Laws_isKeeping_5 : decode prog_5_method_4_code 5 = .ok (.ifCond .le 7, 3) := by decide +kernel
theorem d_Laws_isKeeping_8 : decode prog_5_method_4_code 8 = .ok (.iconst 1, 1) := by decide +kernel
theorem d_Laws_isKeeping_9 : decode prog_5_method_4_code 9 = .ok (.goto 4, 3) := by decide +kernel
theorem d_Laws_isKeeping_12 : decode prog_5_method_4_code 12 = .ok (.iconst 0, 1) := by decide +kernel
theorem d_Laws_isKeeping_13 : decode prog_5_method_4_code 13 = .ok (.ireturn, 1) := by decide +kernel
noncomputable def F_Laws_isKeeping : Sm := sRetZ (bX (o1 (fun x => decide (x > 0)) (cI (mV 5 D_Laws_value) [asV Value.ref (vR 0), asV Value.int (kI (ii 2))])))
theorem mf_Laws_isKeeping : Mf y_Laws_isKeeping prog_5_method_4_code 1 (some .boolean) 0 := ⟨tw_956, tw_127, by decide +kernel⟩
noncomputable def D_Laws_isKeeping : Dn := runS [1] F_Laws_isKeeping
theorem ok_Laws_isKeeping : MOK y_Laws_isKeeping prog_5_method_4_code 1 (some .boolean) 2 0 0 D_Laws_isKeeping := MOK.of (by decide) (by decide) (show SO Y_Laws_isKeeping [(0, 1)] [(0, 1)] 0 14 (([], 0), ([], 0)) F_Laws_isKeeping from
  (s_retZ (p1 := 13) (e_bool (pt := 8) (pf := 12) (c_if_leF (p1 := 5) (tg := 12) (e_cI (p1 := 2) (a_cons (ι := Value.ref) (k0 := 1) (p1 := 1) (fun _ => rfl) (e_aload_n (k0 := 0) d_Laws_isKeeping_0 rfl rfl) (a_cons (ι := Value.int) (k0 := 1) (p1 := 2) (fun _ => rfl) (e_iconst d_Laws_isKeeping_1 (by decide)) a_nil)) (k_virt ok_Laws_value mf_Laws_value ⟨tw_938, tw_26⟩ rfl tw_936 d_Laws_isKeeping_2 (by decide) (by decide) (by decide))) d_Laws_isKeeping_5 rfl) d_Laws_isKeeping_8 d_Laws_isKeeping_9 rfl d_Laws_isKeeping_12 rfl) rfl d_Laws_isKeeping_13))
/-! BlinkerCross$Laws.heldTurns()I -/
abbrev y_Laws_heldTurns : MethodName := ⟨"BlinkerCross$Laws", "heldTurns", "()I"⟩
abbrev Y_Laws_heldTurns : Yt := (prog_5_method_5_code, 1, "BlinkerCross$Laws", 2, (some .int), "heldTurns")
theorem d_Laws_heldTurns_0 : decode prog_5_method_5_code 0 = .ok (.aload_n 0, 1) := by decide +kernel
theorem d_Laws_heldTurns_1 : decode prog_5_method_5_code 1 = .ok (.iconst 3, 1) := by decide +kernel
theorem d_Laws_heldTurns_2 : decode prog_5_method_5_code 2 = .ok (.invokevirtual 45, 3) := by decide +kernel
theorem d_Laws_heldTurns_5 : decode prog_5_method_5_code 5 = .ok (.bipush 100, 2) := by decide +kernel
theorem d_Laws_heldTurns_7 : decode prog_5_method_5_code 7 = .ok (.invokestatic 48, 3) := by decide +kernel
theorem d_Laws_heldTurns_10 : decode prog_5_method_5_code 10 = .ok (.ireturn, 1) := by decide +kernel
noncomputable def F_Laws_heldTurns : Sm := sRet (asV Value.int (cI (D_X_heldTo) [asV Value.int (cI (mV 5 D_Laws_value) [asV Value.ref (vR 0), asV Value.int (kI (ii 3))]), asV Value.int (kI (ii 100))]))
theorem mf_Laws_heldTurns : Mf y_Laws_heldTurns prog_5_method_5_code 1 (some .int) 0 := ⟨tw_960, tw_127, by decide +kernel⟩
noncomputable def D_Laws_heldTurns : Dn := runS [1] F_Laws_heldTurns
theorem ok_Laws_heldTurns : MOK y_Laws_heldTurns prog_5_method_5_code 1 (some .int) 2 0 0 D_Laws_heldTurns := MOK.of (by decide) (by decide) (show SO Y_Laws_heldTurns [(0, 1)] [(0, 1)] 0 11 (([], 0), ([], 0)) F_Laws_heldTurns from
  (s_ret (p1 := 10) (e_cI (p1 := 7) (a_cons (ι := Value.int) (k0 := 1) (p1 := 5) (fun _ => rfl) (e_cI (p1 := 2) (a_cons (ι := Value.ref) (k0 := 1) (p1 := 1) (fun _ => rfl) (e_aload_n (k0 := 0) d_Laws_heldTurns_0 rfl rfl) (a_cons (ι := Value.int) (k0 := 1) (p1 := 2) (fun _ => rfl) (e_iconst d_Laws_heldTurns_1 (by decide)) a_nil)) (k_virt ok_Laws_value mf_Laws_value ⟨tw_938, tw_26⟩ rfl tw_936 d_Laws_heldTurns_2 (by decide) (by decide) (by decide))) (a_cons (ι := Value.int) (k0 := 1) (p1 := 7) (fun _ => rfl) (e_bipush d_Laws_heldTurns_5 (by decide)) a_nil)) (k_heldTo ok_X_heldTo mf_X_heldTo tw_944 rfl d_Laws_heldTurns_7 (by decide) (by decide) (by decide))) rfl d_Laws_heldTurns_10))
/-! BlinkerCross$Laws.crowdsOf(LBlinkerCross$Scene;III)I -/
abbrev y_Laws_crowdsOf : MethodName := ⟨"BlinkerCross$Laws", "crowdsOf", "(LBlinkerCross$Scene;III)I"⟩
abbrev Y_Laws_crowdsOf : Yt := (prog_5_method_8_code, 5, "BlinkerCross$Laws", 2, (some .int), "crowdsOf")
theorem d_Laws_crowdsOf_0 : decode prog_5_method_8_code 0 = .ok (.aload_n 0, 1) := by decide +kernel
theorem d_Laws_crowdsOf_1 : decode prog_5_method_8_code 1 = .ok (.aload_n 1, 1) := by decide +kernel
theorem d_Laws_crowdsOf_2 : decode prog_5_method_8_code 2 = .ok (.iload_n 2, 1) := by decide +kernel
theorem d_Laws_crowdsOf_3 : decode prog_5_method_8_code 3 = .ok (.iload_n 3, 1) := by decide +kernel
theorem d_Laws_crowdsOf_4 : decode prog_5_method_8_code 4 = .ok (.iload 4, 2) := by decide +kernel
theorem d_Laws_crowdsOf_6 : decode prog_5_method_8_code 6 = .ok (.invokevirtual 30, 3) := by decide +kernel
theorem d_Laws_crowdsOf_9 : decode prog_5_method_8_code 9 = .ok (.aload_n 0, 1) := by decide +kernel
theorem d_Laws_crowdsOf_10 : decode prog_5_method_8_code 10 = .ok (.getfield 9, 3) := by decide +kernel
theorem d_Laws_crowdsOf_13 : decode prog_5_method_8_code 13 = .ok (.iconst 0, 1) := by decide +kernel
theorem d_Laws_crowdsOf_14 : decode prog_5_method_8_code 14 = .ok (.aload_n 1, 1) := by decide +kernel
theorem d_Laws_crowdsOf_15 : decode prog_5_method_8_code 15 = .ok (.iload_n 2, 1) := by decide +kernel
theorem d_Laws_crowdsOf_16 : decode prog_5_method_8_code 16 = .ok (.invokevirtual 34, 3) := by decide +kernel
theorem d_Laws_crowdsOf_19 : decode prog_5_method_8_code 19 = .ok (.iastore, 1) := by decide +kernel
theorem d_Laws_crowdsOf_20 : decode prog_5_method_8_code 20 = .ok (.aload_n 0, 1) := by decide +kernel
theorem d_Laws_crowdsOf_21 : decode prog_5_method_8_code 21 = .ok (.getfield 9, 3) := by decide +kernel
theorem d_Laws_crowdsOf_24 : decode prog_5_method_8_code 24 = .ok (.iconst 2, 1) := by decide +kernel
theorem d_Laws_crowdsOf_25 : decode prog_5_method_8_code 25 = .ok (.iconst 0, 1) := by decide +kernel
theorem d_Laws_crowdsOf_26 : decode prog_5_method_8_code 26 = .ok (.iastore, 1) := by decide +kernel
theorem d_Laws_crowdsOf_27 : decode prog_5_method_8_code 27 = .ok (.aload_n 0, 1) := by decide +kernel
theorem d_Laws_crowdsOf_28 : decode prog_5_method_8_code 28 = .ok (.iconst 1, 1) := by decide +kernel
theorem d_Laws_crowdsOf_29 : decode prog_5_method_8_code 29 = .ok (.invokevirtual 45, 3) := by decide +kernel
theorem d_Laws_crowdsOf_32 : decode prog_5_method_8_code 32 = .ok (.bipush 99, 2) := by decide +kernel
theorem d_Laws_crowdsOf_34 : decode prog_5_method_8_code 34 = .ok (.invokestatic 48, 3) := by decide +kernel
theorem d_Laws_crowdsOf_37 : decode prog_5_method_8_code 37 = .ok (.ireturn, 1) := by decide +kernel
noncomputable def F_Laws_crowdsOf : Sm := sSeq (sCall (mV 5 D_Laws_suppose) [asV Value.ref (vR 0), asV Value.ref (vR 1), asV Value.int (vI 2), asV Value.int (vI 3), asV Value.int (vI 4)]) (sSeq (sAst 0 (gR 5 1 (vR 0)) (kI (ii 0)) (cI (mV 4 D_Scene_seenCount) [asV Value.ref (vR 1), asV Value.int (vI 2)])) (sSeq (sAst 0 (gR 5 1 (vR 0)) (kI (ii 2)) (kI (ii 0))) (sRet (asV Value.int (cI (D_X_heldTo) [asV Value.int (cI (mV 5 D_Laws_value) [asV Value.ref (vR 0), asV Value.int (kI (ii 1))]), asV Value.int (kI (ii 99))])))))
theorem mf_Laws_crowdsOf : Mf y_Laws_crowdsOf prog_5_method_8_code 5 (some .int) 4 := ⟨tw_979, tw_127, by decide +kernel⟩
noncomputable def D_Laws_crowdsOf : Dn := runS [1, 1, 1, 1, 1] F_Laws_crowdsOf
theorem ok_Laws_crowdsOf : MOK y_Laws_crowdsOf prog_5_method_8_code 5 (some .int) 2 0 0 D_Laws_crowdsOf := MOK.of (by decide) (by decide) (show SO Y_Laws_crowdsOf [(0, 1), (1, 1), (2, 1), (3, 1), (4, 1)] [(0, 1), (1, 1), (2, 1), (3, 1), (4, 1)] 0 38 (([], 0), ([], 0)) F_Laws_crowdsOf from
  (s_seq (sl1 := [(0, 1), (1, 1), (2, 1), (3, 1), (4, 1)]) (p1 := 9) (s_call (p1 := 6) (a_cons (ι := Value.ref) (k0 := 1) (p1 := 1) (fun _ => rfl) (e_aload_n (k0 := 0) d_Laws_crowdsOf_0 rfl rfl) (a_cons (ι := Value.ref) (k0 := 1) (p1 := 2) (fun _ => rfl) (e_aload_n (k0 := 1) d_Laws_crowdsOf_1 rfl rfl) (a_cons (ι := Value.int) (k0 := 1) (p1 := 3) (fun _ => rfl) (e_iload_n (k0 := 2) d_Laws_crowdsOf_2 rfl rfl) (a_cons (ι := Value.int) (k0 := 1) (p1 := 4) (fun _ => rfl) (e_iload_n (k0 := 3) d_Laws_crowdsOf_3 rfl rfl) (a_cons (ι := Value.int) (k0 := 1) (p1 := 6) (fun _ => rfl) (e_iload (k0 := 4) d_Laws_crowdsOf_4 rfl) a_nil))))) (k_virt ok_Laws_suppose mf_Laws_suppose ⟨tw_923, tw_25⟩ rfl tw_921 d_Laws_crowdsOf_6 (by decide) (by decide) (by decide))) (s_seq (sl1 := [(0, 1), (1, 1), (2, 1), (3, 1), (4, 1)]) (p1 := 20) (s_ast (p1 := 13) (p2 := 14) (p3 := 19) (e_gR (k0 := 1) (p1 := 10) cf_5 (e_aload_n (k0 := 0) d_Laws_crowdsOf_9 rfl rfl) (by decide) tw_352 d_Laws_crowdsOf_10) (e_iconst d_Laws_crowdsOf_13 (by decide)) (e_cI (p1 := 16) (a_cons (ι := Value.ref) (k0 := 1) (p1 := 15) (fun _ => rfl) (e_aload_n (k0 := 1) d_Laws_crowdsOf_14 rfl rfl) (a_cons (ι := Value.int) (k0 := 1) (p1 := 16) (fun _ => rfl) (e_iload_n (k0 := 2) d_Laws_crowdsOf_15 rfl rfl) a_nil)) (k_virt ok_Scene_seenCount mf_Scene_seenCount ⟨tw_901, tw_902⟩ rfl tw_926 d_Laws_crowdsOf_16 (by decide) (by decide) (by decide))) (as_i d_Laws_crowdsOf_19)) (s_seq (sl1 := [(0, 1), (1, 1), (2, 1), (3, 1), (4, 1)]) (p1 := 27) (s_ast (p1 := 24) (p2 := 25) (p3 := 26) (e_gR (k0 := 1) (p1 := 21) cf_5 (e_aload_n (k0 := 0) d_Laws_crowdsOf_20 rfl rfl) (by decide) tw_352 d_Laws_crowdsOf_21) (e_iconst d_Laws_crowdsOf_24 (by decide)) (e_iconst d_Laws_crowdsOf_25 (by decide)) (as_i d_Laws_crowdsOf_26)) (s_ret (p1 := 37) (e_cI (p1 := 34) (a_cons (ι := Value.int) (k0 := 1) (p1 := 32) (fun _ => rfl) (e_cI (p1 := 29) (a_cons (ι := Value.ref) (k0 := 1) (p1 := 28) (fun _ => rfl) (e_aload_n (k0 := 0) d_Laws_crowdsOf_27 rfl rfl) (a_cons (ι := Value.int) (k0 := 1) (p1 := 29) (fun _ => rfl) (e_iconst d_Laws_crowdsOf_28 (by decide)) a_nil)) (k_virt ok_Laws_value mf_Laws_value ⟨tw_938, tw_26⟩ rfl tw_936 d_Laws_crowdsOf_29 (by decide) (by decide) (by decide))) (a_cons (ι := Value.int) (k0 := 1) (p1 := 34) (fun _ => rfl) (e_bipush d_Laws_crowdsOf_32 (by decide)) a_nil)) (k_heldTo ok_X_heldTo mf_X_heldTo tw_944 rfl d_Laws_crowdsOf_34 (by decide) (by decide) (by decide))) rfl d_Laws_crowdsOf_37)))))
/-! BlinkerCross$Laws.gainNow(LBlinkerCross$Scene;I)I -/
abbrev y_Laws_gainNow : MethodName := ⟨"BlinkerCross$Laws", "gainNow", "(LBlinkerCross$Scene;I)I"⟩
abbrev Y_Laws_gainNow : Yt := (prog_5_method_10_code, 4, "BlinkerCross$Laws", 3, (some .int), "gainNow")
theorem d_Laws_gainNow_0 : decode prog_5_method_10_code 0 = .ok (.aload_n 1, 1) := by decide +kernel
theorem d_Laws_gainNow_1 : decode prog_5_method_10_code 1 = .ok (.getfield 22, 3) := by decide +kernel
theorem d_Laws_gainNow_4 : decode prog_5_method_10_code 4 = .ok (.iload_n 2, 1) := by decide +kernel
theorem d_Laws_gainNow_5 : decode prog_5_method_10_code 5 = .ok (.iaload, 1) := by decide +kernel
theorem d_Laws_gainNow_6 : decode prog_5_method_10_code 6 = .ok (.istore_n 3, 1) := by decide +kernel
theorem d_Laws_gainNow_7 : decode prog_5_method_10_code 7 = .ok (.iload_n 3, 1) := by decide +kernel
theorem d_Laws_gainNow_8 : decode prog_5_method_10_code 8 = .ok (.ifCond .ge 5, 3) := by decide +kernel
theorem d_Laws_gainNow_11 : decode prog_5_method_10_code 11 = .ok (.iconst 0, 1) := by decide +kernel
theorem d_Laws_gainNow_12 : decode prog_5_method_10_code 12 = .ok (.ireturn, 1) := by decide +kernel
theorem d_Laws_gainNow_13 : decode prog_5_method_10_code 13 = .ok (.aload_n 1, 1) := by decide +kernel
theorem d_Laws_gainNow_14 : decode prog_5_method_10_code 14 = .ok (.iload_n 2, 1) := by decide +kernel
theorem d_Laws_gainNow_15 : decode prog_5_method_10_code 15 = .ok (.iload_n 3, 1) := by decide +kernel
theorem d_Laws_gainNow_16 : decode prog_5_method_10_code 16 = .ok (.invokevirtual 71, 3) := by decide +kernel
theorem d_Laws_gainNow_19 : decode prog_5_method_10_code 19 = .ok (.aload_n 0, 1) := by decide +kernel
theorem d_Laws_gainNow_20 : decode prog_5_method_10_code 20 = .ok (.aload_n 1, 1) := by decide +kernel
theorem d_Laws_gainNow_21 : decode prog_5_method_10_code 21 = .ok (.iload_n 2, 1) := by decide +kernel
theorem d_Laws_gainNow_22 : decode prog_5_method_10_code 22 = .ok (.iload_n 3, 1) := by decide +kernel
theorem d_Laws_gainNow_23 : decode prog_5_method_10_code 23 = .ok (.aload_n 1, 1) := by decide +kernel
theorem d_Laws_gainNow_24 : decode prog_5_method_10_code 24 = .ok (.getfield 27, 3) := by decide +kernel
theorem d_Laws_gainNow_27 : decode prog_5_method_10_code 27 = .ok (.iload_n 3, 1) := by decide +kernel
theorem d_Laws_gainNow_28 : decode prog_5_method_10_code 28 = .ok (.iaload, 1) := by decide +kernel
theorem d_Laws_gainNow_29 : decode prog_5_method_10_code 29 = .ok (.invokevirtual 74, 3) := by decide +kernel
theorem d_Laws_gainNow_32 : decode prog_5_method_10_code 32 = .ok (.isub, 1) := by decide +kernel
theorem d_Laws_gainNow_33 : decode prog_5_method_10_code 33 = .ok (.ireturn, 1) := by decide +kernel
noncomputable def F_Laws_gainNow : Sm := sSeq (sDecl (asV Value.int (aI 0 (gR 4 1 (vR 1)) (vI 2)))) (sSeq (sIf (o1 (fun x => decide (x < 0)) (vI 3)) (sRet (asV Value.int (kI (ii 0)))) (sSkip)) (sRet (asV Value.int (o2 (fun x y => x - y) (cI (mV 4 D_Scene_wantOf) [asV Value.ref (vR 1), asV Value.int (vI 2), asV Value.int (vI 3)]) (cI (mV 5 D_Laws_crowdsOf) [asV Value.ref (vR 0), asV Value.ref (vR 1), asV Value.int (vI 2), asV Value.int (vI 3), asV Value.int (aI 0 (gR 4 2 (vR 1)) (vI 3))])))))
theorem mf_Laws_gainNow : Mf y_Laws_gainNow prog_5_method_10_code 4 (some .int) 2 := ⟨tw_1028, tw_127, by decide +kernel⟩
noncomputable def D_Laws_gainNow : Dn := runS [1, 1, 1] F_Laws_gainNow
theorem ok_Laws_gainNow : MOK y_Laws_gainNow prog_5_method_10_code 4 (some .int) 3 0 0 D_Laws_gainNow := MOK.of (by decide) (by decide) (show SO Y_Laws_gainNow [(0, 1), (1, 1), (2, 1)] [(0, 1), (1, 1), (2, 1), (3, 1)] 0 34 (([], 0), ([], 0)) F_Laws_gainNow from
  (s_seq (sl1 := [(0, 1), (1, 1), (2, 1), (3, 1)]) (p1 := 7) (s_decl (p1 := 6) (e_iald (p1 := 4) (p2 := 5) (e_gR (k0 := 1) (p1 := 1) cf_4 (e_aload_n (k0 := 1) d_Laws_gainNow_0 rfl rfl) (by decide) tw_323 d_Laws_gainNow_1) (e_iload_n (k0 := 2) d_Laws_gainNow_4 rfl rfl) d_Laws_gainNow_5) (t_istore_n d_Laws_gainNow_6 rfl (by decide)) rfl) (s_seq (sl1 := [(0, 1), (1, 1), (2, 1), (3, 1)]) (p1 := 13) (s_if (pt := 11) (pf := 13) (c_if_geF (p1 := 8) (tg := 13) (e_iload_n (k0 := 3) d_Laws_gainNow_7 rfl rfl) d_Laws_gainNow_8 rfl) (s_ret (p1 := 12) (e_iconst d_Laws_gainNow_11 (by decide)) rfl d_Laws_gainNow_12) s_skip) (s_ret (p1 := 33) (e_isub (p1 := 19) (p2 := 32) (e_cI (p1 := 16) (a_cons (ι := Value.ref) (k0 := 1) (p1 := 14) (fun _ => rfl) (e_aload_n (k0 := 1) d_Laws_gainNow_13 rfl rfl) (a_cons (ι := Value.int) (k0 := 1) (p1 := 15) (fun _ => rfl) (e_iload_n (k0 := 2) d_Laws_gainNow_14 rfl rfl) (a_cons (ι := Value.int) (k0 := 1) (p1 := 16) (fun _ => rfl) (e_iload_n (k0 := 3) d_Laws_gainNow_15 rfl rfl) a_nil))) (k_virt ok_Scene_wantOf mf_Scene_wantOf ⟨tw_873, tw_874⟩ rfl tw_925 d_Laws_gainNow_16 (by decide) (by decide) (by decide))) (e_cI (p1 := 29) (a_cons (ι := Value.ref) (k0 := 1) (p1 := 20) (fun _ => rfl) (e_aload_n (k0 := 0) d_Laws_gainNow_19 rfl rfl) (a_cons (ι := Value.ref) (k0 := 1) (p1 := 21) (fun _ => rfl) (e_aload_n (k0 := 1) d_Laws_gainNow_20 rfl rfl) (a_cons (ι := Value.int) (k0 := 1) (p1 := 22) (fun _ => rfl) (e_iload_n (k0 := 2) d_Laws_gainNow_21 rfl rfl) (a_cons (ι := Value.int) (k0 := 1) (p1 := 23) (fun _ => rfl) (e_iload_n (k0 := 3) d_Laws_gainNow_22 rfl rfl) (a_cons (ι := Value.int) (k0 := 1) (p1 := 29) (fun _ => rfl) (e_iald (p1 := 27) (p2 := 28) (e_gR (k0 := 2) (p1 := 24) cf_4 (e_aload_n (k0 := 1) d_Laws_gainNow_23 rfl rfl) (by decide) tw_328 d_Laws_gainNow_24) (e_iload_n (k0 := 3) d_Laws_gainNow_27 rfl rfl) d_Laws_gainNow_28) a_nil))))) (k_virt ok_Laws_crowdsOf mf_Laws_crowdsOf ⟨tw_977, tw_978⟩ rfl tw_1029 d_Laws_gainNow_29 (by decide) (by decide) (by decide))) d_Laws_gainNow_32) rfl d_Laws_gainNow_33))))
/-! BlinkerCross$Laws.standsWith(LBlinkerCross$Scene;IIII)I -/
abbrev y_Laws_standsWith : MethodName := ⟨"BlinkerCross$Laws", "standsWith", "(LBlinkerCross$Scene;IIII)I"⟩
abbrev Y_Laws_standsWith : Yt := (prog_5_method_7_code, 6, "BlinkerCross$Laws", 3, (some .int), "standsWith")
theorem d_Laws_standsWith_0 : decode prog_5_method_7_code 0 = .ok (.aload_n 0, 1) := by decide +kernel
theorem d_Laws_standsWith_1 : decode prog_5_method_7_code 1 = .ok (.aload_n 1, 1) := by decide +kernel
theorem d_Laws_standsWith_2 : decode prog_5_method_7_code 2 = .ok (.iload_n 2, 1) := by decide +kernel
theorem d_Laws_standsWith_3 : decode prog_5_method_7_code 3 = .ok (.iload 4, 2) := by decide +kernel
theorem d_Laws_standsWith_5 : decode prog_5_method_7_code 5 = .ok (.iload 5, 2) := by decide +kernel
theorem d_Laws_standsWith_7 : decode prog_5_method_7_code 7 = .ok (.invokevirtual 30, 3) := by decide +kernel
theorem d_Laws_standsWith_10 : decode prog_5_method_7_code 10 = .ok (.aload_n 0, 1) := by decide +kernel
theorem d_Laws_standsWith_11 : decode prog_5_method_7_code 11 = .ok (.getfield 9, 3) := by decide +kernel
theorem d_Laws_standsWith_14 : decode prog_5_method_7_code 14 = .ok (.iconst 0, 1) := by decide +kernel
theorem d_Laws_standsWith_15 : decode prog_5_method_7_code 15 = .ok (.iload_n 3, 1) := by decide +kernel
theorem d_Laws_standsWith_16 : decode prog_5_method_7_code 16 = .ok (.aload_n 0, 1) := by decide +kernel
theorem d_Laws_standsWith_17 : decode prog_5_method_7_code 17 = .ok (.getfield 18, 3) := by decide +kernel
theorem d_Laws_standsWith_20 : decode prog_5_method_7_code 20 = .ok (.getfield 60, 3) := by decide +kernel
theorem d_Laws_standsWith_23 : decode prog_5_method_7_code 23 = .ok (.invokestatic 66, 3) := by decide +kernel
theorem d_Laws_standsWith_26 : decode prog_5_method_7_code 26 = .ok (.iastore, 1) := by decide +kernel
theorem d_Laws_standsWith_27 : decode prog_5_method_7_code 27 = .ok (.aload_n 0, 1) := by decide +kernel
theorem d_Laws_standsWith_28 : decode prog_5_method_7_code 28 = .ok (.getfield 9, 3) := by decide +kernel
theorem d_Laws_standsWith_31 : decode prog_5_method_7_code 31 = .ok (.iconst 2, 1) := by decide +kernel
theorem d_Laws_standsWith_32 : decode prog_5_method_7_code 32 = .ok (.aload_n 1, 1) := by decide +kernel
theorem d_Laws_standsWith_33 : decode prog_5_method_7_code 33 = .ok (.iload_n 2, 1) := by decide +kernel
theorem d_Laws_standsWith_34 : decode prog_5_method_7_code 34 = .ok (.iload_n 3, 1) := by decide +kernel
theorem d_Laws_standsWith_35 : decode prog_5_method_7_code 35 = .ok (.iload 4, 2) := by decide +kernel
theorem d_Laws_standsWith_37 : decode prog_5_method_7_code 37 = .ok (.invokevirtual 41, 3) := by decide +kernel
theorem d_Laws_standsWith_40 : decode prog_5_method_7_code 40 = .ok (.iastore, 1) := by decide +kernel
theorem d_Laws_standsWith_41 : decode prog_5_method_7_code 41 = .ok (.aload_n 0, 1) := by decide +kernel
theorem d_Laws_standsWith_42 : decode prog_5_method_7_code 42 = .ok (.invokevirtual 56, 3) := by decide +kernel
theorem d_Laws_standsWith_45 : decode prog_5_method_7_code 45 = .ok (.ireturn, 1) := by decide +kernel
noncomputable def F_Laws_standsWith : Sm := sSeq (sCall (mV 5 D_Laws_suppose) [asV Value.ref (vR 0), asV Value.ref (vR 1), asV Value.int (vI 2), asV Value.int (vI 4), asV Value.int (vI 5)]) (sSeq (sAst 0 (gR 5 1 (vR 0)) (kI (ii 0)) (o2 (fun x y => if y < x then y else x) (vI 3) (gI 2 0 (gR 5 0 (vR 0))))) (sSeq (sAst 0 (gR 5 1 (vR 0)) (kI (ii 2)) (cI (mV 4 D_Scene_nextWant) [asV Value.ref (vR 1), asV Value.int (vI 2), asV Value.int (vI 3), asV Value.int (vI 4)])) (sRet (asV Value.int (cI (mV 5 D_Laws_heldStands) [asV Value.ref (vR 0)])))))
theorem mf_Laws_standsWith : Mf y_Laws_standsWith prog_5_method_7_code 6 (some .int) 5 := ⟨tw_1064, tw_127, by decide +kernel⟩
noncomputable def D_Laws_standsWith : Dn := runS [1, 1, 1, 1, 1, 1] F_Laws_standsWith
theorem ok_Laws_standsWith : MOK y_Laws_standsWith prog_5_method_7_code 6 (some .int) 3 0 0 D_Laws_standsWith := MOK.of (by decide) (by decide) (show SO Y_Laws_standsWith [(0, 1), (1, 1), (2, 1), (3, 1), (4, 1), (5, 1)] [(0, 1), (1, 1), (2, 1), (3, 1), (4, 1), (5, 1)] 0 46 (([], 0), ([], 0)) F_Laws_standsWith from
  (s_seq (sl1 := [(0, 1), (1, 1), (2, 1), (3, 1), (4, 1), (5, 1)]) (p1 := 10) (s_call (p1 := 7) (a_cons (ι := Value.ref) (k0 := 1) (p1 := 1) (fun _ => rfl) (e_aload_n (k0 := 0) d_Laws_standsWith_0 rfl rfl) (a_cons (ι := Value.ref) (k0 := 1) (p1 := 2) (fun _ => rfl) (e_aload_n (k0 := 1) d_Laws_standsWith_1 rfl rfl) (a_cons (ι := Value.int) (k0 := 1) (p1 := 3) (fun _ => rfl) (e_iload_n (k0 := 2) d_Laws_standsWith_2 rfl rfl) (a_cons (ι := Value.int) (k0 := 1) (p1 := 5) (fun _ => rfl) (e_iload (k0 := 4) d_Laws_standsWith_3 rfl) (a_cons (ι := Value.int) (k0 := 1) (p1 := 7) (fun _ => rfl) (e_iload (k0 := 5) d_Laws_standsWith_5 rfl) a_nil))))) (k_virt ok_Laws_suppose mf_Laws_suppose ⟨tw_923, tw_25⟩ rfl tw_921 d_Laws_standsWith_7 (by decide) (by decide) (by decide))) (s_seq (sl1 := [(0, 1), (1, 1), (2, 1), (3, 1), (4, 1), (5, 1)]) (p1 := 27) (s_ast (p1 := 14) (p2 := 15) (p3 := 26) (e_gR (k0 := 1) (p1 := 11) cf_5 (e_aload_n (k0 := 0) d_Laws_standsWith_10 rfl rfl) (by decide) tw_352 d_Laws_standsWith_11) (e_iconst d_Laws_standsWith_14 (by decide)) (e_min (p1 := 16) (p2 := 23) (e_iload_n (k0 := 3) d_Laws_standsWith_15 rfl rfl) (e_gI (k0 := 0) (p1 := 20) cf_2 (e_gR (k0 := 0) (p1 := 17) cf_5 (e_aload_n (k0 := 0) d_Laws_standsWith_16 rfl rfl) (by decide) tw_351 d_Laws_standsWith_17) (by decide) tw_201 d_Laws_standsWith_20) ⟨tw_1065, tw_723, tw_139, tw_724⟩ d_Laws_standsWith_23 (by decide) (by decide)) (as_i d_Laws_standsWith_26)) (s_seq (sl1 := [(0, 1), (1, 1), (2, 1), (3, 1), (4, 1), (5, 1)]) (p1 := 41) (s_ast (p1 := 31) (p2 := 32) (p3 := 40) (e_gR (k0 := 1) (p1 := 28) cf_5 (e_aload_n (k0 := 0) d_Laws_standsWith_27 rfl rfl) (by decide) tw_352 d_Laws_standsWith_28) (e_iconst d_Laws_standsWith_31 (by decide)) (e_cI (p1 := 37) (a_cons (ι := Value.ref) (k0 := 1) (p1 := 33) (fun _ => rfl) (e_aload_n (k0 := 1) d_Laws_standsWith_32 rfl rfl) (a_cons (ι := Value.int) (k0 := 1) (p1 := 34) (fun _ => rfl) (e_iload_n (k0 := 2) d_Laws_standsWith_33 rfl rfl) (a_cons (ι := Value.int) (k0 := 1) (p1 := 35) (fun _ => rfl) (e_iload_n (k0 := 3) d_Laws_standsWith_34 rfl rfl) (a_cons (ι := Value.int) (k0 := 1) (p1 := 37) (fun _ => rfl) (e_iload (k0 := 4) d_Laws_standsWith_35 rfl) a_nil)))) (k_virt ok_Scene_nextWant mf_Scene_nextWant ⟨tw_928, tw_929⟩ rfl tw_927 d_Laws_standsWith_37 (by decide) (by decide) (by decide))) (as_i d_Laws_standsWith_40)) (s_ret (p1 := 45) (e_cI (p1 := 42) (a_cons (ι := Value.ref) (k0 := 1) (p1 := 42) (fun _ => rfl) (e_aload_n (k0 := 0) d_Laws_standsWith_41 rfl rfl) a_nil) (k_virt ok_Laws_heldStands mf_Laws_heldStands ⟨tw_933, tw_934⟩ rfl tw_1066 d_Laws_standsWith_42 (by decide) (by decide) (by decide))) rfl d_Laws_standsWith_45)))))
/-! BlinkerCross$Laws.gainOf(LBlinkerCross$Scene;III)I -/
abbrev y_Laws_gainOf : MethodName := ⟨"BlinkerCross$Laws", "gainOf", "(LBlinkerCross$Scene;III)I"⟩
abbrev Y_Laws_gainOf : Yt := (prog_5_method_9_code, 5, "BlinkerCross$Laws", 3, (some .int), "gainOf")
theorem d_Laws_gainOf_0 : decode prog_5_method_9_code 0 = .ok (.aload_n 1, 1) := by decide +kernel
theorem d_Laws_gainOf_1 : decode prog_5_method_9_code 1 = .ok (.iload_n 2, 1) := by decide +kernel
theorem d_Laws_gainOf_2 : decode prog_5_method_9_code 2 = .ok (.iload_n 3, 1) := by decide +kernel
theorem d_Laws_gainOf_3 : decode prog_5_method_9_code 3 = .ok (.invokevirtual 71, 3) := by decide +kernel
theorem d_Laws_gainOf_6 : decode prog_5_method_9_code 6 = .ok (.aload_n 0, 1) := by decide +kernel
theorem d_Laws_gainOf_7 : decode prog_5_method_9_code 7 = .ok (.aload_n 1, 1) := by decide +kernel
theorem d_Laws_gainOf_8 : decode prog_5_method_9_code 8 = .ok (.iload_n 2, 1) := by decide +kernel
theorem d_Laws_gainOf_9 : decode prog_5_method_9_code 9 = .ok (.iload_n 3, 1) := by decide +kernel
theorem d_Laws_gainOf_10 : decode prog_5_method_9_code 10 = .ok (.iload 4, 2) := by decide +kernel
theorem d_Laws_gainOf_12 : decode prog_5_method_9_code 12 = .ok (.invokevirtual 74, 3) := by decide +kernel
theorem d_Laws_gainOf_15 : decode prog_5_method_9_code 15 = .ok (.isub, 1) := by decide +kernel
theorem d_Laws_gainOf_16 : decode prog_5_method_9_code 16 = .ok (.ireturn, 1) := by decide +kernel
noncomputable def F_Laws_gainOf : Sm := sRet (asV Value.int (o2 (fun x y => x - y) (cI (mV 4 D_Scene_wantOf) [asV Value.ref (vR 1), asV Value.int (vI 2), asV Value.int (vI 3)]) (cI (mV 5 D_Laws_crowdsOf) [asV Value.ref (vR 0), asV Value.ref (vR 1), asV Value.int (vI 2), asV Value.int (vI 3), asV Value.int (vI 4)])))
theorem mf_Laws_gainOf : Mf y_Laws_gainOf prog_5_method_9_code 5 (some .int) 4 := ⟨tw_1092, tw_127, by decide +kernel⟩
noncomputable def D_Laws_gainOf : Dn := runS [1, 1, 1, 1, 1] F_Laws_gainOf
theorem ok_Laws_gainOf : MOK y_Laws_gainOf prog_5_method_9_code 5 (some .int) 3 0 0 D_Laws_gainOf := MOK.of (by decide) (by decide) (show SO Y_Laws_gainOf [(0, 1), (1, 1), (2, 1), (3, 1), (4, 1)] [(0, 1), (1, 1), (2, 1), (3, 1), (4, 1)] 0 17 (([], 0), ([], 0)) F_Laws_gainOf from
  (s_ret (p1 := 16) (e_isub (p1 := 6) (p2 := 15) (e_cI (p1 := 3) (a_cons (ι := Value.ref) (k0 := 1) (p1 := 1) (fun _ => rfl) (e_aload_n (k0 := 1) d_Laws_gainOf_0 rfl rfl) (a_cons (ι := Value.int) (k0 := 1) (p1 := 2) (fun _ => rfl) (e_iload_n (k0 := 2) d_Laws_gainOf_1 rfl rfl) (a_cons (ι := Value.int) (k0 := 1) (p1 := 3) (fun _ => rfl) (e_iload_n (k0 := 3) d_Laws_gainOf_2 rfl rfl) a_nil))) (k_virt ok_Scene_wantOf mf_Scene_wantOf ⟨tw_873, tw_874⟩ rfl tw_925 d_Laws_gainOf_3 (by decide) (by decide) (by decide))) (e_cI (p1 := 12) (a_cons (ι := Value.ref) (k0 := 1) (p1 := 7) (fun _ => rfl) (e_aload_n (k0 := 0) d_Laws_gainOf_6 rfl rfl) (a_cons (ι := Value.ref) (k0 := 1) (p1 := 8) (fun _ => rfl) (e_aload_n (k0 := 1) d_Laws_gainOf_7 rfl rfl) (a_cons (ι := Value.int) (k0 := 1) (p1 := 9) (fun _ => rfl) (e_iload_n (k0 := 2) d_Laws_gainOf_8 rfl rfl) (a_cons (ι := Value.int) (k0 := 1) (p1 := 10) (fun _ => rfl) (e_iload_n (k0 := 3) d_Laws_gainOf_9 rfl rfl) (a_cons (ι := Value.int) (k0 := 1) (p1 := 12) (fun _ => rfl) (e_iload (k0 := 4) d_Laws_gainOf_10 rfl) a_nil))))) (k_virt ok_Laws_crowdsOf mf_Laws_crowdsOf ⟨tw_977, tw_978⟩ rfl tw_1029 d_Laws_gainOf_12 (by decide) (by decide) (by decide))) d_Laws_gainOf_15) rfl d_Laws_gainOf_16))
/-! BlinkerCross$Laws.standsNow(LBlinkerCross$Scene;I)I -/
abbrev y_Laws_standsNow : MethodName := ⟨"BlinkerCross$Laws", "standsNow", "(LBlinkerCross$Scene;I)I"⟩
abbrev Y_Laws_standsNow : Yt := (prog_5_method_6_code, 3, "BlinkerCross$Laws", 3, (some .int), "standsNow")
theorem d_Laws_standsNow_0 : decode prog_5_method_6_code 0 = .ok (.aload_n 0, 1) := by decide +kernel
theorem d_Laws_standsNow_1 : decode prog_5_method_6_code 1 = .ok (.aload_n 1, 1) := by decide +kernel
theorem d_Laws_standsNow_2 : decode prog_5_method_6_code 2 = .ok (.iload_n 2, 1) := by decide +kernel
theorem d_Laws_standsNow_3 : decode prog_5_method_6_code 3 = .ok (.invokevirtual 52, 3) := by decide +kernel
theorem d_Laws_standsNow_6 : decode prog_5_method_6_code 6 = .ok (.aload_n 0, 1) := by decide +kernel
theorem d_Laws_standsNow_7 : decode prog_5_method_6_code 7 = .ok (.invokevirtual 56, 3) := by decide +kernel
theorem d_Laws_standsNow_10 : decode prog_5_method_6_code 10 = .ok (.ireturn, 1) := by decide +kernel
noncomputable def F_Laws_standsNow : Sm := sSeq (sCall (mV 5 D_Laws_meet) [asV Value.ref (vR 0), asV Value.ref (vR 1), asV Value.int (vI 2)]) (sRet (asV Value.int (cI (mV 5 D_Laws_heldStands) [asV Value.ref (vR 0)])))
theorem mf_Laws_standsNow : Mf y_Laws_standsNow prog_5_method_6_code 3 (some .int) 2 := ⟨tw_1262, tw_127, by decide +kernel⟩
noncomputable def D_Laws_standsNow : Dn := runS [1, 1, 1] F_Laws_standsNow
theorem ok_Laws_standsNow : MOK y_Laws_standsNow prog_5_method_6_code 3 (some .int) 3 0 0 D_Laws_standsNow := MOK.of (by decide) (by decide) (show SO Y_Laws_standsNow [(0, 1), (1, 1), (2, 1)] [(0, 1), (1, 1), (2, 1)] 0 11 (([], 0), ([], 0)) F_Laws_standsNow from
  (s_seq (sl1 := [(0, 1), (1, 1), (2, 1)]) (p1 := 6) (s_call (p1 := 3) (a_cons (ι := Value.ref) (k0 := 1) (p1 := 1) (fun _ => rfl) (e_aload_n (k0 := 0) d_Laws_standsNow_0 rfl rfl) (a_cons (ι := Value.ref) (k0 := 1) (p1 := 2) (fun _ => rfl) (e_aload_n (k0 := 1) d_Laws_standsNow_1 rfl rfl) (a_cons (ι := Value.int) (k0 := 1) (p1 := 3) (fun _ => rfl) (e_iload_n (k0 := 2) d_Laws_standsNow_2 rfl rfl) a_nil))) (k_virt ok_Laws_meet mf_Laws_meet ⟨tw_918, tw_919⟩ rfl tw_1263 d_Laws_standsNow_3 (by decide) (by decide) (by decide))) (s_ret (p1 := 10) (e_cI (p1 := 7) (a_cons (ι := Value.ref) (k0 := 1) (p1 := 7) (fun _ => rfl) (e_aload_n (k0 := 0) d_Laws_standsNow_6 rfl rfl) a_nil) (k_virt ok_Laws_heldStands mf_Laws_heldStands ⟨tw_933, tw_934⟩ rfl tw_1066 d_Laws_standsNow_7 (by decide) (by decide) (by decide))) rfl d_Laws_standsNow_10)))
/-! BlinkerCross$Laws.standsOfAll(LBlinkerCross$Scene;)I -/
abbrev y_Laws_standsOfAll : MethodName := ⟨"BlinkerCross$Laws", "standsOfAll", "(LBlinkerCross$Scene;)I"⟩
abbrev Y_Laws_standsOfAll : Yt := (prog_5_method_11_code, 4, "BlinkerCross$Laws", 4, (some .int), "standsOfAll")
theorem d_Laws_standsOfAll_0 : decode prog_5_method_11_code 0 = .ok (.iconst 0, 1) := by decide +kernel
theorem d_Laws_standsOfAll_1 : decode prog_5_method_11_code 1 = .ok (.istore_n 2, 1) := by decide +kernel
theorem d_Laws_standsOfAll_2 : decode prog_5_method_11_code 2 = .ok (.iconst 0, 1) := by decide +kernel
theorem d_Laws_standsOfAll_3 : decode prog_5_method_11_code 3 = .ok (.istore_n 3, 1) := by decide +kernel
theorem d_Laws_standsOfAll_4 : decode prog_5_method_11_code 4 = .ok (.iload_n 3, 1) := by decide +kernel
theorem d_Laws_standsOfAll_5 : decode prog_5_method_11_code 5 = .ok (.aload_n 0, 1) := by decide +kernel
theorem d_Laws_standsOfAll_6 : decode prog_5_method_11_code 6 = .ok (.getfield 18, 3) := by decide +kernel
theorem d_Laws_standsOfAll_9 : decode prog_5_method_11_code 9 = .ok (.getfield 78, 3) := by decide +kernel
theorem d_Laws_standsOfAll_12 : decode prog_5_method_11_code 12 = .ok (.if_icmp .ge 18, 3) := by decide +kernel
theorem d_Laws_standsOfAll_15 : decode prog_5_method_11_code 15 = .ok (.iload_n 2, 1) := by decide +kernel
theorem d_Laws_standsOfAll_16 : decode prog_5_method_11_code 16 = .ok (.aload_n 0, 1) := by decide +kernel
theorem d_Laws_standsOfAll_17 : decode prog_5_method_11_code 17 = .ok (.aload_n 1, 1) := by decide +kernel
theorem d_Laws_standsOfAll_18 : decode prog_5_method_11_code 18 = .ok (.iload_n 3, 1) := by decide +kernel
theorem d_Laws_standsOfAll_19 : decode prog_5_method_11_code 19 = .ok (.invokevirtual 81, 3) := by decide +kernel
theorem d_Laws_standsOfAll_22 : decode prog_5_method_11_code 22 = .ok (.iadd, 1) := by decide +kernel
theorem d_Laws_standsOfAll_23 : decode prog_5_method_11_code 23 = .ok (.istore_n 2, 1) := by decide +kernel
theorem d_Laws_standsOfAll_24 : decode prog_5_method_11_code 24 = .ok (.iinc 3 1, 3) := by decide +kernel
theorem d_Laws_standsOfAll_27 : decode prog_5_method_11_code 27 = .ok (.goto (-23), 3) := by decide +kernel
theorem d_Laws_standsOfAll_30 : decode prog_5_method_11_code 30 = .ok (.iload_n 2, 1) := by decide +kernel
theorem d_Laws_standsOfAll_31 : decode prog_5_method_11_code 31 = .ok (.ireturn, 1) := by decide +kernel
noncomputable def Lc_Laws_standsOfAll_1 : Xp Bool := o2 (fun x y => decide (x < y)) (vI 3) (gI 2 1 (gR 5 0 (vR 0)))
noncomputable def Lb_Laws_standsOfAll_1 : Sm := sSet 2 (asV Value.int (o2 (fun x y => x + y) (vI 2) (cI (mV 5 D_Laws_standsNow) [asV Value.ref (vR 0), asV Value.ref (vR 1), asV Value.int (vI 3)])))
noncomputable def Lu_Laws_standsOfAll_1 : Sm := sInc 3 (ii 1)
noncomputable def F_Laws_standsOfAll : Sm := sSeq (sDecl (asV Value.int (kI (ii 0)))) (sSeq (sBlk 3 (sSeq (sDecl (asV Value.int (kI (ii 0)))) (sWh (Lc_Laws_standsOfAll_1) (Lb_Laws_standsOfAll_1) Lu_Laws_standsOfAll_1))) (sRet (asV Value.int (vI 2))))
theorem mf_Laws_standsOfAll : Mf y_Laws_standsOfAll prog_5_method_11_code 4 (some .int) 1 := ⟨tw_1308, tw_127, by decide +kernel⟩
noncomputable def D_Laws_standsOfAll : Dn := runS [1, 1] F_Laws_standsOfAll
theorem ok_Laws_standsOfAll : MOK y_Laws_standsOfAll prog_5_method_11_code 4 (some .int) 4 0 0 D_Laws_standsOfAll := MOK.of (by decide) (by decide) (show SO Y_Laws_standsOfAll [(0, 1), (1, 1)] [(0, 1), (1, 1), (2, 1)] 0 32 (([], 0), ([], 0)) F_Laws_standsOfAll from
  (s_seq (sl1 := [(0, 1), (1, 1), (2, 1)]) (p1 := 2) (s_decl (p1 := 1) (e_iconst d_Laws_standsOfAll_0 (by decide)) (t_istore_n d_Laws_standsOfAll_1 rfl (by decide)) rfl) (s_seq (sl1 := [(0, 1), (1, 1), (2, 1)]) (p1 := 30) (s_blk (sl1 := [(0, 1), (1, 1), (2, 1), (3, 1)]) (s_seq (sl1 := [(0, 1), (1, 1), (2, 1), (3, 1)]) (p1 := 4) (s_decl (p1 := 3) (e_iconst d_Laws_standsOfAll_2 (by decide)) (t_istore_n d_Laws_standsOfAll_3 rfl (by decide)) rfl) (s_for (pt := 15) (pu := 24) (pf := 30) (pg := 0) (c_icmp_geF (p1 := 5) (p2 := 12) (tg := 30) (e_iload_n (k0 := 3) d_Laws_standsOfAll_4 rfl rfl) (e_gI (k0 := 1) (p1 := 9) cf_2 (e_gR (k0 := 0) (p1 := 6) cf_5 (e_aload_n (k0 := 0) d_Laws_standsOfAll_5 rfl rfl) (by decide) tw_351 d_Laws_standsOfAll_6) (by decide) tw_211 d_Laws_standsOfAll_9) d_Laws_standsOfAll_12 rfl) (s_set (k0 := 2) (p1 := 23) (e_iadd (p1 := 16) (p2 := 22) (e_iload_n (k0 := 2) d_Laws_standsOfAll_15 rfl rfl) (e_cI (p1 := 19) (a_cons (ι := Value.ref) (k0 := 1) (p1 := 17) (fun _ => rfl) (e_aload_n (k0 := 0) d_Laws_standsOfAll_16 rfl rfl) (a_cons (ι := Value.ref) (k0 := 1) (p1 := 18) (fun _ => rfl) (e_aload_n (k0 := 1) d_Laws_standsOfAll_17 rfl rfl) (a_cons (ι := Value.int) (k0 := 1) (p1 := 19) (fun _ => rfl) (e_iload_n (k0 := 3) d_Laws_standsOfAll_18 rfl rfl) a_nil))) (k_virt ok_Laws_standsNow mf_Laws_standsNow ⟨tw_1260, tw_1261⟩ rfl tw_1309 d_Laws_standsOfAll_19 (by decide) (by decide) (by decide))) d_Laws_standsOfAll_22) (t_istore_n d_Laws_standsOfAll_23 rfl (by decide)) rfl rfl) (s_goto (p1 := 27) (s_inc (k0 := 3) d_Laws_standsOfAll_24 rfl rfl (Nat.le_of_ble_eq_true rfl) rfl) d_Laws_standsOfAll_27 rfl))) rfl) (s_ret (p1 := 31) (e_iload_n (k0 := 2) d_Laws_standsOfAll_30 rfl rfl) rfl d_Laws_standsOfAll_31))))
/-! BlinkerCross$Laws.gainOfAll(LBlinkerCross$Scene;)I -/
abbrev y_Laws_gainOfAll : MethodName := ⟨"BlinkerCross$Laws", "gainOfAll", "(LBlinkerCross$Scene;)I"⟩
abbrev Y_Laws_gainOfAll : Yt := (prog_5_method_12_code, 4, "BlinkerCross$Laws", 4, (some .int), "gainOfAll")
theorem d_Laws_gainOfAll_0 : decode prog_5_method_12_code 0 = .ok (.iconst 0, 1) := by decide +kernel
theorem d_Laws_gainOfAll_1 : decode prog_5_method_12_code 1 = .ok (.istore_n 2, 1) := by decide +kernel
theorem d_Laws_gainOfAll_2 : decode prog_5_method_12_code 2 = .ok (.iconst 0, 1) := by decide +kernel
theorem d_Laws_gainOfAll_3 : decode prog_5_method_12_code 3 = .ok (.istore_n 3, 1) := by decide +kernel
theorem d_Laws_gainOfAll_4 : decode prog_5_method_12_code 4 = .ok (.iload_n 3, 1) := by decide +kernel
theorem d_Laws_gainOfAll_5 : decode prog_5_method_12_code 5 = .ok (.aload_n 0, 1) := by decide +kernel
theorem d_Laws_gainOfAll_6 : decode prog_5_method_12_code 6 = .ok (.getfield 18, 3) := by decide +kernel
theorem d_Laws_gainOfAll_9 : decode prog_5_method_12_code 9 = .ok (.getfield 78, 3) := by decide +kernel
theorem d_Laws_gainOfAll_12 : decode prog_5_method_12_code 12 = .ok (.if_icmp .ge 18, 3) := by decide +kernel
theorem d_Laws_gainOfAll_15 : decode prog_5_method_12_code 15 = .ok (.iload_n 2, 1) := by decide +kernel
theorem d_Laws_gainOfAll_16 : decode prog_5_method_12_code 16 = .ok (.aload_n 0, 1) := by decide +kernel
theorem d_Laws_gainOfAll_17 : decode prog_5_method_12_code 17 = .ok (.aload_n 1, 1) := by decide +kernel
theorem d_Laws_gainOfAll_18 : decode prog_5_method_12_code 18 = .ok (.iload_n 3, 1) := by decide +kernel
theorem d_Laws_gainOfAll_19 : decode prog_5_method_12_code 19 = .ok (.invokevirtual 85, 3) := by decide +kernel
theorem d_Laws_gainOfAll_22 : decode prog_5_method_12_code 22 = .ok (.iadd, 1) := by decide +kernel
theorem d_Laws_gainOfAll_23 : decode prog_5_method_12_code 23 = .ok (.istore_n 2, 1) := by decide +kernel
theorem d_Laws_gainOfAll_24 : decode prog_5_method_12_code 24 = .ok (.iinc 3 1, 3) := by decide +kernel
theorem d_Laws_gainOfAll_27 : decode prog_5_method_12_code 27 = .ok (.goto (-23), 3) := by decide +kernel
theorem d_Laws_gainOfAll_30 : decode prog_5_method_12_code 30 = .ok (.iload_n 2, 1) := by decide +kernel
theorem d_Laws_gainOfAll_31 : decode prog_5_method_12_code 31 = .ok (.ireturn, 1) := by decide +kernel
noncomputable def Lc_Laws_gainOfAll_1 : Xp Bool := o2 (fun x y => decide (x < y)) (vI 3) (gI 2 1 (gR 5 0 (vR 0)))
noncomputable def Lb_Laws_gainOfAll_1 : Sm := sSet 2 (asV Value.int (o2 (fun x y => x + y) (vI 2) (cI (mV 5 D_Laws_gainNow) [asV Value.ref (vR 0), asV Value.ref (vR 1), asV Value.int (vI 3)])))
noncomputable def Lu_Laws_gainOfAll_1 : Sm := sInc 3 (ii 1)
noncomputable def F_Laws_gainOfAll : Sm := sSeq (sDecl (asV Value.int (kI (ii 0)))) (sSeq (sBlk 3 (sSeq (sDecl (asV Value.int (kI (ii 0)))) (sWh (Lc_Laws_gainOfAll_1) (Lb_Laws_gainOfAll_1) Lu_Laws_gainOfAll_1))) (sRet (asV Value.int (vI 2))))
theorem mf_Laws_gainOfAll : Mf y_Laws_gainOfAll prog_5_method_12_code 4 (some .int) 1 := ⟨tw_1318, tw_127, by decide +kernel⟩
noncomputable def D_Laws_gainOfAll : Dn := runS [1, 1] F_Laws_gainOfAll
theorem ok_Laws_gainOfAll : MOK y_Laws_gainOfAll prog_5_method_12_code 4 (some .int) 4 0 0 D_Laws_gainOfAll := MOK.of (by decide) (by decide) (show SO Y_Laws_gainOfAll [(0, 1), (1, 1)] [(0, 1), (1, 1), (2, 1)] 0 32 (([], 0), ([], 0)) F_Laws_gainOfAll from
  (s_seq (sl1 := [(0, 1), (1, 1), (2, 1)]) (p1 := 2) (s_decl (p1 := 1) (e_iconst d_Laws_gainOfAll_0 (by decide)) (t_istore_n d_Laws_gainOfAll_1 rfl (by decide)) rfl) (s_seq (sl1 := [(0, 1), (1, 1), (2, 1)]) (p1 := 30) (s_blk (sl1 := [(0, 1), (1, 1), (2, 1), (3, 1)]) (s_seq (sl1 := [(0, 1), (1, 1), (2, 1), (3, 1)]) (p1 := 4) (s_decl (p1 := 3) (e_iconst d_Laws_gainOfAll_2 (by decide)) (t_istore_n d_Laws_gainOfAll_3 rfl (by decide)) rfl) (s_for (pt := 15) (pu := 24) (pf := 30) (pg := 0) (c_icmp_geF (p1 := 5) (p2 := 12) (tg := 30) (e_iload_n (k0 := 3) d_Laws_gainOfAll_4 rfl rfl) (e_gI (k0 := 1) (p1 := 9) cf_2 (e_gR (k0 := 0) (p1 := 6) cf_5 (e_aload_n (k0 := 0) d_Laws_gainOfAll_5 rfl rfl) (by decide) tw_351 d_Laws_gainOfAll_6) (by decide) tw_211 d_Laws_gainOfAll_9) d_Laws_gainOfAll_12 rfl) (s_set (k0 := 2) (p1 := 23) (e_iadd (p1 := 16) (p2 := 22) (e_iload_n (k0 := 2) d_Laws_gainOfAll_15 rfl rfl) (e_cI (p1 := 19) (a_cons (ι := Value.ref) (k0 := 1) (p1 := 17) (fun _ => rfl) (e_aload_n (k0 := 0) d_Laws_gainOfAll_16 rfl rfl) (a_cons (ι := Value.ref) (k0 := 1) (p1 := 18) (fun _ => rfl) (e_aload_n (k0 := 1) d_Laws_gainOfAll_17 rfl rfl) (a_cons (ι := Value.int) (k0 := 1) (p1 := 19) (fun _ => rfl) (e_iload_n (k0 := 3) d_Laws_gainOfAll_18 rfl rfl) a_nil))) (k_virt ok_Laws_gainNow mf_Laws_gainNow ⟨tw_1026, tw_1027⟩ rfl tw_1319 d_Laws_gainOfAll_19 (by decide) (by decide) (by decide))) d_Laws_gainOfAll_22) (t_istore_n d_Laws_gainOfAll_23 rfl (by decide)) rfl rfl) (s_goto (p1 := 27) (s_inc (k0 := 3) d_Laws_gainOfAll_24 rfl rfl (Nat.le_of_ble_eq_true rfl) rfl) d_Laws_gainOfAll_27 rfl))) rfl) (s_ret (p1 := 31) (e_iload_n (k0 := 2) d_Laws_gainOfAll_30 rfl rfl) rfl d_Laws_gainOfAll_31))))

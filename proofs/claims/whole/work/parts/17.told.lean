/-! Methods: bytes, denotations, that the bytes do so (written by wip/whole/jgen.py). -/
/-! BlinkerCross$Told.add(IIZ)I -/
abbrev y_Told_add : MethodName := ⟨"BlinkerCross$Told", "add", "(IIZ)I"⟩
abbrev Y_Told_add : Yt := (prog_12_method_2_code, 4, "BlinkerCross$Told", 0, (some .int), "add")
theorem d_Told_add_0 : decode prog_12_method_2_code 0 = .ok (.aload_n 0, 1) := by decide +kernel
theorem d_Told_add_1 : decode prog_12_method_2_code 1 = .ok (.getfield 34, 3) := by decide +kernel
theorem d_Told_add_4 : decode prog_12_method_2_code 4 = .ok (.bipush 20, 2) := by decide +kernel
theorem d_Told_add_6 : decode prog_12_method_2_code 6 = .ok (.if_icmp .lt 5, 3) := by decide +kernel
theorem d_Told_add_9 : decode prog_12_method_2_code 9 = .ok (.iconst (-1), 1) := by decide +kernel
theorem d_Told_add_10 : decode prog_12_method_2_code 10 = .ok (.ireturn, 1) := by decide +kernel
theorem d_Told_add_11 : decode prog_12_method_2_code 11 = .ok (.aload_n 0, 1) := by decide +kernel
theorem d_Told_add_12 : decode prog_12_method_2_code 12 = .ok (.getfield 9, 3) := by decide +kernel
theorem d_Told_add_15 : decode prog_12_method_2_code 15 = .ok (.aload_n 0, 1) := by decide +kernel
theorem d_Told_add_16 : decode prog_12_method_2_code 16 = .ok (.getfield 34, 3) := by decide +kernel
theorem d_Told_add_19 : decode prog_12_method_2_code 19 = .ok (.iload_n 1, 1) := by decide +kernel
theorem d_Told_add_20 : decode prog_12_method_2_code 20 = .ok (.iastore, 1) := by decide +kernel
theorem d_Told_add_21 : decode prog_12_method_2_code 21 = .ok (.aload_n 0, 1) := by decide +kernel
theorem d_Told_add_22 : decode prog_12_method_2_code 22 = .ok (.getfield 15, 3) := by decide +kernel
theorem d_Told_add_25 : decode prog_12_method_2_code 25 = .ok (.aload_n 0, 1) := by decide +kernel
theorem d_Told_add_26 : decode prog_12_method_2_code 26 = .ok (.getfield 34, 3) := by decide +kernel
theorem d_Told_add_29 : decode prog_12_method_2_code 29 = .ok (.iload_n 2, 1) := by decide +kernel
theorem d_Told_add_30 : decode prog_12_method_2_code 30 = .ok (.iastore, 1) := by decide +kernel
theorem d_Told_add_31 : decode prog_12_method_2_code 31 = .ok (.aload_n 0, 1) := by decide +kernel
theorem d_Told_add_32 : decode prog_12_method_2_code 32 = .ok (.getfield 18, 3) := by decide +kernel
theorem d_Told_add_35 : decode prog_12_method_2_code 35 = .ok (.aload_n 0, 1) := by decide +kernel
theorem d_Told_add_36 : decode prog_12_method_2_code 36 = .ok (.getfield 34, 3) := by decide +kernel
theorem d_Told_add_39 : decode prog_12_method_2_code 39 = .ok (.iload_n 3, 1) := by decide +kernel
theorem d_Told_add_40 : decode prog_12_method_2_code 40 = .ok (.bastore, 1) := by decide +kernel
theorem d_Told_add_41 : decode prog_12_method_2_code 41 = .ok (.aload_n 0, 1) := by decide +kernel
theorem d_Told_add_42 : decode prog_12_method_2_code 42 = .ok (.dup, 1) := by decide +kernel
theorem d_Told_add_43 : decode prog_12_method_2_code 43 = .ok (.getfield 34, 3) := by decide +kernel
theorem d_Told_add_46 : decode prog_12_method_2_code 46 = .ok (.iconst 1, 1) := by decide +kernel
theorem d_Told_add_47 : decode prog_12_method_2_code 47 = .ok (.iadd, 1) := by decide +kernel
theorem d_Told_add_48 : decode prog_12_method_2_code 48 = .ok (.putfield 34, 3) := by decide +kernel
theorem d_Told_add_51 : decode prog_12_method_2_code 51 = .ok (.aload_n 0, 1) := by decide +kernel
theorem d_Told_add_52 : decode prog_12_method_2_code 52 = .ok (.getfield 34, 3) := by decide +kernel
theorem d_Told_add_55 : decode prog_12_method_2_code 55 = .ok (.iconst 1, 1) := by decide +kernel
theorem d_Told_add_56 : decode prog_12_method_2_code 56 = .ok (.isub, 1) := by decide +kernel
theorem d_Told_add_57 : decode prog_12_method_2_code 57 = .ok (.ireturn, 1) := by decide +kernel
noncomputable def F_Told_add : Sm := sSeq (sIf (o2 (fun x y => decide (x ≥ y)) (gI 10 0 (vR 0)) (kI (ii 20))) (sRet (asV Value.int (kI (ii (-1))))) (sSkip)) (sSeq (sAst 0 (gR 10 4 (vR 0)) (gI 10 0 (vR 0)) (vI 1)) (sSeq (sAst 0 (gR 10 5 (vR 0)) (gI 10 0 (vR 0)) (vI 2)) (sSeq (sAst 3 (gR 10 6 (vR 0)) (gI 10 0 (vR 0)) (vI 3)) (sSeq (sFop 10 0 (vR 0) (fun x y => x + y) (kI (ii 1))) (sRet (asV Value.int (o2 (fun x y => x - y) (gI 10 0 (vR 0)) (kI (ii 1)))))))))
theorem mf_Told_add : Mf y_Told_add prog_12_method_2_code 4 (some .int) 3 := ⟨tw_1242, tw_132, by decide +kernel⟩
noncomputable def D_Told_add : Dn := runS [1, 1, 1, 1] F_Told_add
theorem ok_Told_add : MOK y_Told_add prog_12_method_2_code 4 (some .int) 0 0 0 D_Told_add := MOK.of (by decide) (by decide) (show SO Y_Told_add [(0, 1), (1, 1), (2, 1), (3, 1)] [(0, 1), (1, 1), (2, 1), (3, 1)] 0 58 (([], 0), ([], 0)) F_Told_add from
  (s_seq (sl1 := [(0, 1), (1, 1), (2, 1), (3, 1)]) (p1 := 11) (s_if (pt := 9) (pf := 11) (c_icmp_ltF (p1 := 4) (p2 := 6) (tg := 11) (e_gI (k0 := 0) (p1 := 1) cf_10 (e_aload_n (k0 := 0) d_Told_add_0 rfl rfl) (by decide) tw_517 d_Told_add_1) (e_bipush d_Told_add_4 (by decide)) d_Told_add_6 rfl) (s_ret (p1 := 10) (e_iconst d_Told_add_9 (by decide)) rfl d_Told_add_10) s_skip) (s_seq (sl1 := [(0, 1), (1, 1), (2, 1), (3, 1)]) (p1 := 21) (s_ast (p1 := 15) (p2 := 19) (p3 := 20) (e_gR (k0 := 4) (p1 := 12) cf_10 (e_aload_n (k0 := 0) d_Told_add_11 rfl rfl) (by decide) tw_522 d_Told_add_12) (e_gI (k0 := 0) (p1 := 16) cf_10 (e_aload_n (k0 := 0) d_Told_add_15 rfl rfl) (by decide) tw_517 d_Told_add_16) (e_iload_n (k0 := 1) d_Told_add_19 rfl rfl) (as_i d_Told_add_20)) (s_seq (sl1 := [(0, 1), (1, 1), (2, 1), (3, 1)]) (p1 := 31) (s_ast (p1 := 25) (p2 := 29) (p3 := 30) (e_gR (k0 := 5) (p1 := 22) cf_10 (e_aload_n (k0 := 0) d_Told_add_21 rfl rfl) (by decide) tw_523 d_Told_add_22) (e_gI (k0 := 0) (p1 := 26) cf_10 (e_aload_n (k0 := 0) d_Told_add_25 rfl rfl) (by decide) tw_517 d_Told_add_26) (e_iload_n (k0 := 2) d_Told_add_29 rfl rfl) (as_i d_Told_add_30)) (s_seq (sl1 := [(0, 1), (1, 1), (2, 1), (3, 1)]) (p1 := 41) (s_ast (p1 := 35) (p2 := 39) (p3 := 40) (e_gR (k0 := 6) (p1 := 32) cf_10 (e_aload_n (k0 := 0) d_Told_add_31 rfl rfl) (by decide) tw_524 d_Told_add_32) (e_gI (k0 := 0) (p1 := 36) cf_10 (e_aload_n (k0 := 0) d_Told_add_35 rfl rfl) (by decide) tw_517 d_Told_add_36) (e_iload_n (k0 := 3) d_Told_add_39 rfl rfl) (as_z d_Told_add_40)) (s_seq (sl1 := [(0, 1), (1, 1), (2, 1), (3, 1)]) (p1 := 51) (s_fop (k0 := 0) (p1 := 42) (p2 := 47) cf_10 (e_aload_n (k0 := 0) d_Told_add_41 rfl rfl) d_Told_add_42 d_Told_add_43 (e_iconst d_Told_add_46 (by decide)) (op_iadd d_Told_add_47) (by decide) rfl tw_517 tw_517 rfl d_Told_add_48) (s_ret (p1 := 57) (e_isub (p1 := 55) (p2 := 56) (e_gI (k0 := 0) (p1 := 52) cf_10 (e_aload_n (k0 := 0) d_Told_add_51 rfl rfl) (by decide) tw_517 d_Told_add_52) (e_iconst d_Told_add_55 (by decide)) d_Told_add_56) rfl d_Told_add_57)))))))
/-! BlinkerCross$Told.markOf(II)I -/
abbrev y_Told_markOf : MethodName := ⟨"BlinkerCross$Told", "markOf", "(II)I"⟩
abbrev Y_Told_markOf : Yt := (prog_12_method_6_code, 3, "BlinkerCross$Told", 4, (some .int), "markOf")
theorem d_Told_markOf_0 : decode prog_12_method_6_code 0 = .ok (.iload_n 1, 1) := by decide +kernel
theorem d_Told_markOf_1 : decode prog_12_method_6_code 1 = .ok (.tableswitch 81 0 3 #[31, 41, 54, 72], 31) := by decide +kernel
theorem d_Told_markOf_32 : decode prog_12_method_6_code 32 = .ok (.aload_n 0, 1) := by decide +kernel
theorem d_Told_markOf_33 : decode prog_12_method_6_code 33 = .ok (.getfield 26, 3) := by decide +kernel
theorem d_Told_markOf_36 : decode prog_12_method_6_code 36 = .ok (.getfield 56, 3) := by decide +kernel
theorem d_Told_markOf_39 : decode prog_12_method_6_code 39 = .ok (.iload_n 2, 1) := by decide +kernel
theorem d_Told_markOf_40 : decode prog_12_method_6_code 40 = .ok (.iaload, 1) := by decide +kernel
theorem d_Told_markOf_41 : decode prog_12_method_6_code 41 = .ok (.ireturn, 1) := by decide +kernel
theorem d_Told_markOf_42 : decode prog_12_method_6_code 42 = .ok (.aload_n 0, 1) := by decide +kernel
theorem d_Told_markOf_43 : decode prog_12_method_6_code 43 = .ok (.getfield 30, 3) := by decide +kernel
theorem d_Told_markOf_46 : decode prog_12_method_6_code 46 = .ok (.aload_n 0, 1) := by decide +kernel
theorem d_Told_markOf_47 : decode prog_12_method_6_code 47 = .ok (.getfield 26, 3) := by decide +kernel
theorem d_Told_markOf_50 : decode prog_12_method_6_code 50 = .ok (.iload_n 2, 1) := by decide +kernel
theorem d_Told_markOf_51 : decode prog_12_method_6_code 51 = .ok (.invokevirtual 61, 3) := by decide +kernel
theorem d_Told_markOf_54 : decode prog_12_method_6_code 54 = .ok (.ireturn, 1) := by decide +kernel
theorem d_Told_markOf_55 : decode prog_12_method_6_code 55 = .ok (.aload_n 0, 1) := by decide +kernel
theorem d_Told_markOf_56 : decode prog_12_method_6_code 56 = .ok (.getfield 26, 3) := by decide +kernel
theorem d_Told_markOf_59 : decode prog_12_method_6_code 59 = .ok (.iload_n 2, 1) := by decide +kernel
theorem d_Told_markOf_60 : decode prog_12_method_6_code 60 = .ok (.aload_n 0, 1) := by decide +kernel
theorem d_Told_markOf_61 : decode prog_12_method_6_code 61 = .ok (.getfield 26, 3) := by decide +kernel
theorem d_Told_markOf_64 : decode prog_12_method_6_code 64 = .ok (.getfield 56, 3) := by decide +kernel
theorem d_Told_markOf_67 : decode prog_12_method_6_code 67 = .ok (.iload_n 2, 1) := by decide +kernel
theorem d_Told_markOf_68 : decode prog_12_method_6_code 68 = .ok (.iaload, 1) := by decide +kernel
theorem d_Told_markOf_69 : decode prog_12_method_6_code 69 = .ok (.invokevirtual 67, 3) := by decide +kernel
theorem d_Told_markOf_72 : decode prog_12_method_6_code 72 = .ok (.ireturn, 1) := by decide +kernel
theorem d_Told_markOf_73 : decode prog_12_method_6_code 73 = .ok (.aload_n 0, 1) := by decide +kernel
theorem d_Told_markOf_74 : decode prog_12_method_6_code 74 = .ok (.getfield 26, 3) := by decide +kernel
theorem d_Told_markOf_77 : decode prog_12_method_6_code 77 = .ok (.iload_n 2, 1) := by decide +kernel
theorem d_Told_markOf_78 : decode prog_12_method_6_code 78 = .ok (.invokevirtual 70, 3) := by decide +kernel
theorem d_Told_markOf_81 : decode prog_12_method_6_code 81 = .ok (.ireturn, 1) := by decide +kernel
theorem d_Told_markOf_82 : decode prog_12_method_6_code 82 = .ok (.aload_n 0, 1) := by decide +kernel
theorem d_Told_markOf_83 : decode prog_12_method_6_code 83 = .ok (.getfield 26, 3) := by decide +kernel
theorem d_Told_markOf_86 : decode prog_12_method_6_code 86 = .ok (.getfield 74, 3) := by decide +kernel
theorem d_Told_markOf_89 : decode prog_12_method_6_code 89 = .ok (.bipush 15, 2) := by decide +kernel
theorem d_Told_markOf_91 : decode prog_12_method_6_code 91 = .ok (.iload_n 2, 1) := by decide +kernel
theorem d_Told_markOf_92 : decode prog_12_method_6_code 92 = .ok (.iadd, 1) := by decide +kernel
theorem d_Told_markOf_93 : decode prog_12_method_6_code 93 = .ok (.iaload, 1) := by decide +kernel
theorem d_Told_markOf_94 : decode prog_12_method_6_code 94 = .ok (.ireturn, 1) := by decide +kernel
noncomputable def F_Told_markOf : Sm := sSw (vI 1) [(ii 0, sRet (asV Value.int (aI 0 (gR 4 1 (gR 10 2 (vR 0))) (vI 2)))), (ii 1, sRet (asV Value.int (cI (mV 5 D_Laws_standsNow) [asV Value.ref (gR 10 3 (vR 0)), asV Value.ref (gR 10 2 (vR 0)), asV Value.int (vI 2)]))), (ii 2, sRet (asV Value.int (cI (mV 4 D_Scene_missedBy) [asV Value.ref (gR 10 2 (vR 0)), asV Value.int (vI 2), asV Value.int (aI 0 (gR 4 1 (gR 10 2 (vR 0))) (vI 2))]))), (ii 3, sRet (asV Value.int (cI (mV 4 D_Scene_seenCount) [asV Value.ref (gR 10 2 (vR 0)), asV Value.int (vI 2)])))] (sRet (asV Value.int (aI 0 (gR 4 0 (gR 10 2 (vR 0))) (o2 (fun x y => x + y) (kI (ii 15)) (vI 2)))))
theorem mf_Told_markOf : Mf y_Told_markOf prog_12_method_6_code 3 (some .int) 2 := ⟨tw_1258, tw_132, by decide +kernel⟩
noncomputable def D_Told_markOf : Dn := runS [1, 1, 1] F_Told_markOf
set_option maxRecDepth 100000 in
theorem ok_Told_markOf : MOK y_Told_markOf prog_12_method_6_code 3 (some .int) 4 0 0 D_Told_markOf := MOK.of (by decide) (by decide) (show SO Y_Told_markOf [(0, 1), (1, 1), (2, 1)] [(0, 1), (1, 1), (2, 1)] 0 0 (([], 0), ([], 0)) F_Told_markOf from
  (s_tab (p1 := 1) (P := [(ii 0, 32), (ii 1, 42), (ii 2, 55), (ii 3, 73)]) (pd := 82) (jc := ([], 0)) (dflt := 81) (lo := 0) (hi := 3) (offs := #[31, 41, 54, 72]) (len := 31) (e_iload_n (k0 := 1) d_Told_markOf_0 rfl rfl) d_Told_markOf_1 (by decide) (by decide +kernel) ⟨rfl, (s_ret (p1 := 41) (e_iald (p1 := 39) (p2 := 40) (e_gR (k0 := 1) (p1 := 36) cf_4 (e_gR (k0 := 2) (p1 := 33) cf_10 (e_aload_n (k0 := 0) d_Told_markOf_32 rfl rfl) (by decide) tw_520 d_Told_markOf_33) (by decide) tw_325 d_Told_markOf_36) (e_iload_n (k0 := 2) d_Told_markOf_39 rfl rfl) d_Told_markOf_40) rfl d_Told_markOf_41), ⟨rfl, (s_ret (p1 := 54) (e_cI (p1 := 51) (a_cons (ι := Value.ref) (k0 := 1) (p1 := 46) (fun _ => rfl) (e_gR (k0 := 3) (p1 := 43) cf_10 (e_aload_n (k0 := 0) d_Told_markOf_42 rfl rfl) (by decide) tw_521 d_Told_markOf_43) (a_cons (ι := Value.ref) (k0 := 1) (p1 := 50) (fun _ => rfl) (e_gR (k0 := 2) (p1 := 47) cf_10 (e_aload_n (k0 := 0) d_Told_markOf_46 rfl rfl) (by decide) tw_520 d_Told_markOf_47) (a_cons (ι := Value.int) (k0 := 1) (p1 := 51) (fun _ => rfl) (e_iload_n (k0 := 2) d_Told_markOf_50 rfl rfl) a_nil))) (k_virt ok_Laws_standsNow mf_Laws_standsNow ⟨tw_1260, tw_1261⟩ rfl tw_1259 d_Told_markOf_51 (by decide) (by decide) (by decide))) rfl d_Told_markOf_54), ⟨rfl, (s_ret (p1 := 72) (e_cI (p1 := 69) (a_cons (ι := Value.ref) (k0 := 1) (p1 := 59) (fun _ => rfl) (e_gR (k0 := 2) (p1 := 56) cf_10 (e_aload_n (k0 := 0) d_Told_markOf_55 rfl rfl) (by decide) tw_520 d_Told_markOf_56) (a_cons (ι := Value.int) (k0 := 1) (p1 := 60) (fun _ => rfl) (e_iload_n (k0 := 2) d_Told_markOf_59 rfl rfl) (a_cons (ι := Value.int) (k0 := 1) (p1 := 69) (fun _ => rfl) (e_iald (p1 := 67) (p2 := 68) (e_gR (k0 := 1) (p1 := 64) cf_4 (e_gR (k0 := 2) (p1 := 61) cf_10 (e_aload_n (k0 := 0) d_Told_markOf_60 rfl rfl) (by decide) tw_520 d_Told_markOf_61) (by decide) tw_325 d_Told_markOf_64) (e_iload_n (k0 := 2) d_Told_markOf_67 rfl rfl) d_Told_markOf_68) a_nil))) (k_virt ok_Scene_missedBy mf_Scene_missedBy ⟨tw_949, tw_950⟩ rfl tw_1264 d_Told_markOf_69 (by decide) (by decide) (by decide))) rfl d_Told_markOf_72), ⟨rfl, (s_ret (p1 := 81) (e_cI (p1 := 78) (a_cons (ι := Value.ref) (k0 := 1) (p1 := 77) (fun _ => rfl) (e_gR (k0 := 2) (p1 := 74) cf_10 (e_aload_n (k0 := 0) d_Told_markOf_73 rfl rfl) (by decide) tw_520 d_Told_markOf_74) (a_cons (ι := Value.int) (k0 := 1) (p1 := 78) (fun _ => rfl) (e_iload_n (k0 := 2) d_Told_markOf_77 rfl rfl) a_nil)) (k_virt ok_Scene_seenCount mf_Scene_seenCount ⟨tw_901, tw_902⟩ rfl tw_1265 d_Told_markOf_78 (by decide) (by decide) (by decide))) rfl d_Told_markOf_81), trivial⟩⟩⟩⟩ (s_ret (p1 := 94) (e_iald (p1 := 89) (p2 := 93) (e_gR (k0 := 0) (p1 := 86) cf_4 (e_gR (k0 := 2) (p1 := 83) cf_10 (e_aload_n (k0 := 0) d_Told_markOf_82 rfl rfl) (by decide) tw_520 d_Told_markOf_83) (by decide) tw_319 d_Told_markOf_86) (e_iadd (p1 := 91) (p2 := 92) (e_bipush d_Told_markOf_89 (by decide)) (e_iload_n (k0 := 2) d_Told_markOf_91 rfl rfl) d_Told_markOf_92) d_Told_markOf_93) rfl d_Told_markOf_94)))
/-! BlinkerCross$Told.leftBits(I)I -/
abbrev y_Told_leftBits : MethodName := ⟨"BlinkerCross$Told", "leftBits", "(I)I"⟩
abbrev Y_Told_leftBits : Yt := (prog_12_method_3_code, 6, "BlinkerCross$Told", 5, (some .int), "leftBits")
theorem d_Told_leftBits_0 : decode prog_12_method_3_code 0 = .ok (.iconst 0, 1) := by decide +kernel
theorem d_Told_leftBits_1 : decode prog_12_method_3_code 1 = .ok (.istore_n 2, 1) := by decide +kernel
theorem d_Told_leftBits_2 : decode prog_12_method_3_code 2 = .ok (.iconst 0, 1) := by decide +kernel
theorem d_Told_leftBits_3 : decode prog_12_method_3_code 3 = .ok (.istore_n 3, 1) := by decide +kernel
theorem d_Told_leftBits_4 : decode prog_12_method_3_code 4 = .ok (.iload_n 3, 1) := by decide +kernel
theorem d_Told_leftBits_5 : decode prog_12_method_3_code 5 = .ok (.aload_n 0, 1) := by decide +kernel
theorem d_Told_leftBits_6 : decode prog_12_method_3_code 6 = .ok (.getfield 22, 3) := by decide +kernel
theorem d_Told_leftBits_9 : decode prog_12_method_3_code 9 = .ok (.getfield 38, 3) := by decide +kernel
theorem d_Told_leftBits_12 : decode prog_12_method_3_code 12 = .ok (.if_icmp .ge 94, 3) := by decide +kernel
theorem d_Told_leftBits_15 : decode prog_12_method_3_code 15 = .ok (.iconst 1, 1) := by decide +kernel
theorem d_Told_leftBits_16 : decode prog_12_method_3_code 16 = .ok (.istore 4, 2) := by decide +kernel
theorem d_Told_leftBits_18 : decode prog_12_method_3_code 18 = .ok (.iconst 0, 1) := by decide +kernel
theorem d_Told_leftBits_19 : decode prog_12_method_3_code 19 = .ok (.istore 5, 2) := by decide +kernel
theorem d_Told_leftBits_21 : decode prog_12_method_3_code 21 = .ok (.iload 5, 2) := by decide +kernel
theorem d_Told_leftBits_23 : decode prog_12_method_3_code 23 = .ok (.iload_n 1, 1) := by decide +kernel
theorem d_Told_leftBits_24 : decode prog_12_method_3_code 24 = .ok (.if_icmp .ge 65, 3) := by decide +kernel
theorem d_Told_leftBits_27 : decode prog_12_method_3_code 27 = .ok (.iload 5, 2) := by decide +kernel
theorem d_Told_leftBits_29 : decode prog_12_method_3_code 29 = .ok (.bipush 20, 2) := by decide +kernel
theorem d_Told_leftBits_31 : decode prog_12_method_3_code 31 = .ok (.if_icmp .ge 58, 3) := by decide +kernel
theorem d_Told_leftBits_34 : decode prog_12_method_3_code 34 = .ok (.iload 4, 2) := by decide +kernel
theorem d_Told_leftBits_36 : decode prog_12_method_3_code 36 = .ok (.ifCond .eq 53, 3) := by decide +kernel
theorem d_Told_leftBits_39 : decode prog_12_method_3_code 39 = .ok (.aload_n 0, 1) := by decide +kernel
theorem d_Told_leftBits_40 : decode prog_12_method_3_code 40 = .ok (.aload_n 0, 1) := by decide +kernel
theorem d_Told_leftBits_41 : decode prog_12_method_3_code 41 = .ok (.getfield 9, 3) := by decide +kernel
theorem d_Told_leftBits_44 : decode prog_12_method_3_code 44 = .ok (.iload 5, 2) := by decide +kernel
theorem d_Told_leftBits_46 : decode prog_12_method_3_code 46 = .ok (.iaload, 1) := by decide +kernel
theorem d_Told_leftBits_47 : decode prog_12_method_3_code 47 = .ok (.iload_n 3, 1) := by decide +kernel
theorem d_Told_leftBits_48 : decode prog_12_method_3_code 48 = .ok (.invokevirtual 43, 3) := by decide +kernel
theorem d_Told_leftBits_51 : decode prog_12_method_3_code 51 = .ok (.aload_n 0, 1) := by decide +kernel
theorem d_Told_leftBits_52 : decode prog_12_method_3_code 52 = .ok (.getfield 15, 3) := by decide +kernel
theorem d_Told_leftBits_55 : decode prog_12_method_3_code 55 = .ok (.iload 5, 2) := by decide +kernel
theorem d_Told_leftBits_57 : decode prog_12_method_3_code 57 = .ok (.iaload, 1) := by decide +kernel
theorem d_Told_leftBits_58 : decode prog_12_method_3_code 58 = .ok (.if_icmp .lt 7, 3) := by decide +kernel
theorem d_Told_leftBits_61 : decode prog_12_method_3_code 61 = .ok (.iconst 1, 1) := by decide +kernel
theorem d_Told_leftBits_62 : decode prog_12_method_3_code 62 = .ok (.goto 4, 3) := by decide +kernel
theorem d_Told_leftBits_65 : decode prog_12_method_3_code 65 = .ok (.iconst 0, 1) := by decide +kernel
theorem d_Told_leftBits_66 : decode prog_12_method_3_code 66 = .ok (.aload_n 0, 1) := by decide +kernel
theorem d_Told_leftBits_67 : decode prog_12_method_3_code 67 = .ok (.getfield 18, 3) := by decide +kernel
theorem d_Told_leftBits_70 : decode prog_12_method_3_code 70 = .ok (.iload 5, 2) := by decide +kernel
theorem d_Told_leftBits_72 : decode prog_12_method_3_code 72 = .ok (.baload, 1) := by decide +kernel
theorem d_Told_leftBits_73 : decode prog_12_method_3_code 73 = .ok (.if_icmp .ne 7, 3) := by decide +kernel
theorem d_Told_leftBits_76 : decode prog_12_method_3_code 76 = .ok (.iconst 1, 1) := by decide +kernel
theorem d_Told_leftBits_77 : decode prog_12_method_3_code 77 = .ok (.goto 4, 3) := by decide +kernel
theorem d_Told_leftBits_80 : decode prog_12_method_3_code 80 = .ok (.iconst 0, 1) := by decide +kernel
theorem d_Told_leftBits_81 : decode prog_12_method_3_code 81 = .ok (.istore 4, 2) := by decide +kernel
theorem d_Told_leftBits_83 : decode prog_12_method_3_code 83 = .ok (.iinc 5 1, 3) := by decide +kernel
theorem d_Told_leftBits_86 : decode prog_12_method_3_code 86 = .ok (.goto (-65), 3) := by decide +kernel
theorem d_Told_leftBits_89 : decode prog_12_method_3_code 89 = .ok (.iload 4, 2) := by decide +kernel
theorem d_Told_leftBits_91 : decode prog_12_method_3_code 91 = .ok (.ifCond .eq 9, 3) := by decide +kernel
theorem d_Told_leftBits_94 : decode prog_12_method_3_code 94 = .ok (.iload_n 2, 1) := by decide +kernel
theorem d_Told_leftBits_95 : decode prog_12_method_3_code 95 = .ok (.iconst 1, 1) := by decide +kernel
theorem d_Told_leftBits_96 : decode prog_12_method_3_code 96 = .ok (.iload_n 3, 1) := by decide +kernel
theorem d_Told_leftBits_97 : decode prog_12_method_3_code 97 = .ok (.ishl, 1) := by decide +kernel
theorem d_Told_leftBits_98 : decode prog_12_method_3_code 98 = .ok (.ior, 1) := by decide +kernel
theorem d_Told_leftBits_99 : decode prog_12_method_3_code 99 = .ok (.istore_n 2, 1) := by decide +kernel
theorem d_Told_leftBits_100 : decode prog_12_method_3_code 100 = .ok (.iinc 3 1, 3) := by decide +kernel
theorem d_Told_leftBits_103 : decode prog_12_method_3_code 103 = .ok (.goto (-99), 3) := by decide +kernel
theorem d_Told_leftBits_106 : decode prog_12_method_3_code 106 = .ok (.iload_n 2, 1) := by decide +kernel
theorem d_Told_leftBits_107 : decode prog_12_method_3_code 107 = .ok (.ireturn, 1) := by decide +kernel
noncomputable def Lc_Told_leftBits_1 : Xp Bool := cAnd (cAnd (o2 (fun x y => decide (x < y)) (vI 5) (vI 1)) (o2 (fun x y => decide (x < y)) (vI 5) (kI (ii 20)))) (o1 (fun x => decide (x ≠ 0)) (vI 4))
noncomputable def Lb_Told_leftBits_1 : Sm := sSet 4 (asV Value.int (bX (o2 (fun x y => decide (x = y)) (bX (o2 (fun x y => decide (x ≥ y)) (cI (mV 10 D_Told_markOf) [asV Value.ref (vR 0), asV Value.int (aI 0 (gR 10 4 (vR 0)) (vI 5)), asV Value.int (vI 3)]) (aI 0 (gR 10 5 (vR 0)) (vI 5)))) (aI 3 (gR 10 6 (vR 0)) (vI 5)))))
noncomputable def Lu_Told_leftBits_1 : Sm := sInc 5 (ii 1)
noncomputable def Lc_Told_leftBits_2 : Xp Bool := o2 (fun x y => decide (x < y)) (vI 3) (gI 2 1 (gR 10 1 (vR 0)))
noncomputable def Lb_Told_leftBits_2 : Sm := sBlk 4 (sSeq (sDecl (asV Value.int (kI (ii 1)))) (sSeq (sBlk 5 (sSeq (sDecl (asV Value.int (kI (ii 0)))) (sWh (Lc_Told_leftBits_1) (Lb_Told_leftBits_1) Lu_Told_leftBits_1))) (sIf (o1 (fun x => decide (x ≠ 0)) (vI 4)) (sSet 2 (asV Value.int (o2 (fun x y => x ||| y) (vI 2) (o2 (fun (x y : Int32) => x <<< (y &&& 31)) (kI (ii 1)) (vI 3))))) (sSkip))))
noncomputable def Lu_Told_leftBits_2 : Sm := sInc 3 (ii 1)
noncomputable def F_Told_leftBits : Sm := sSeq (sDecl (asV Value.int (kI (ii 0)))) (sSeq (sBlk 3 (sSeq (sDecl (asV Value.int (kI (ii 0)))) (sWh (Lc_Told_leftBits_2) (Lb_Told_leftBits_2) Lu_Told_leftBits_2))) (sRet (asV Value.int (vI 2))))
theorem mf_Told_leftBits : Mf y_Told_leftBits prog_12_method_3_code 6 (some .int) 1 := ⟨tw_1254, tw_132, by decide +kernel⟩
noncomputable def D_Told_leftBits : Dn := runS [1, 1] F_Told_leftBits
theorem ok_Told_leftBits : MOK y_Told_leftBits prog_12_method_3_code 6 (some .int) 5 0 0 D_Told_leftBits := MOK.of (by decide) (by decide) (show SO Y_Told_leftBits [(0, 1), (1, 1)] [(0, 1), (1, 1), (2, 1)] 0 108 (([], 0), ([], 0)) F_Told_leftBits from
  (s_seq (sl1 := [(0, 1), (1, 1), (2, 1)]) (p1 := 2) (s_decl (p1 := 1) (e_iconst d_Told_leftBits_0 (by decide)) (t_istore_n d_Told_leftBits_1 rfl (by decide)) rfl) (s_seq (sl1 := [(0, 1), (1, 1), (2, 1)]) (p1 := 106) (s_blk (sl1 := [(0, 1), (1, 1), (2, 1), (3, 1)]) (s_seq (sl1 := [(0, 1), (1, 1), (2, 1), (3, 1)]) (p1 := 4) (s_decl (p1 := 3) (e_iconst d_Told_leftBits_2 (by decide)) (t_istore_n d_Told_leftBits_3 rfl (by decide)) rfl) (s_for (pt := 15) (pu := 100) (pf := 106) (pg := 0) (c_icmp_geF (p1 := 5) (p2 := 12) (tg := 106) (e_iload_n (k0 := 3) d_Told_leftBits_4 rfl rfl) (e_gI (k0 := 1) (p1 := 9) cf_2 (e_gR (k0 := 1) (p1 := 6) cf_10 (e_aload_n (k0 := 0) d_Told_leftBits_5 rfl rfl) (by decide) tw_519 d_Told_leftBits_6) (by decide) tw_206 d_Told_leftBits_9) d_Told_leftBits_12 rfl) (s_blk (sl1 := [(0, 1), (1, 1), (2, 1), (3, 1), (4, 1)]) (s_seq (sl1 := [(0, 1), (1, 1), (2, 1), (3, 1), (4, 1)]) (p1 := 18) (s_decl (p1 := 16) (e_iconst d_Told_leftBits_15 (by decide)) (t_istore d_Told_leftBits_16 (by decide)) rfl) (s_seq (sl1 := [(0, 1), (1, 1), (2, 1), (3, 1), (4, 1)]) (p1 := 89) (s_blk (sl1 := [(0, 1), (1, 1), (2, 1), (3, 1), (4, 1), (5, 1)]) (s_seq (sl1 := [(0, 1), (1, 1), (2, 1), (3, 1), (4, 1), (5, 1)]) (p1 := 21) (s_decl (p1 := 19) (e_iconst d_Told_leftBits_18 (by decide)) (t_istore d_Told_leftBits_19 (by decide)) rfl) (s_for (pt := 39) (pu := 83) (pf := 89) (pg := 0) (c_and (p1 := 34) (c_and (p1 := 27) (c_icmp_geF (p1 := 23) (p2 := 24) (tg := 89) (e_iload (k0 := 5) d_Told_leftBits_21 rfl) (e_iload_n (k0 := 1) d_Told_leftBits_23 rfl rfl) d_Told_leftBits_24 rfl) (c_icmp_geF (p1 := 29) (p2 := 31) (tg := 89) (e_iload (k0 := 5) d_Told_leftBits_27 rfl) (e_bipush d_Told_leftBits_29 (by decide)) d_Told_leftBits_31 rfl)) (c_if_eqF (p1 := 36) (tg := 89) (e_iload (k0 := 4) d_Told_leftBits_34 rfl) d_Told_leftBits_36 rfl)) (s_set (k0 := 4) (p1 := 81) (e_bool (pt := 76) (pf := 80) (c_icmp_neF (p1 := 66) (p2 := 73) (tg := 80) (e_bool (pt := 61) (pf := 65) (c_icmp_ltF (p1 := 51) (p2 := 58) (tg := 65) (e_cI (p1 := 48) (a_cons (ι := Value.ref) (k0 := 1) (p1 := 40) (fun _ => rfl) (e_aload_n (k0 := 0) d_Told_leftBits_39 rfl rfl) (a_cons (ι := Value.int) (k0 := 1) (p1 := 47) (fun _ => rfl) (e_iald (p1 := 44) (p2 := 46) (e_gR (k0 := 4) (p1 := 41) cf_10 (e_aload_n (k0 := 0) d_Told_leftBits_40 rfl rfl) (by decide) tw_522 d_Told_leftBits_41) (e_iload (k0 := 5) d_Told_leftBits_44 rfl) d_Told_leftBits_46) (a_cons (ι := Value.int) (k0 := 1) (p1 := 48) (fun _ => rfl) (e_iload_n (k0 := 3) d_Told_leftBits_47 rfl rfl) a_nil))) (k_virt ok_Told_markOf mf_Told_markOf ⟨tw_1257, tw_44⟩ rfl tw_1255 d_Told_leftBits_48 (by decide) (by decide) (by decide))) (e_iald (p1 := 55) (p2 := 57) (e_gR (k0 := 5) (p1 := 52) cf_10 (e_aload_n (k0 := 0) d_Told_leftBits_51 rfl rfl) (by decide) tw_523 d_Told_leftBits_52) (e_iload (k0 := 5) d_Told_leftBits_55 rfl) d_Told_leftBits_57) d_Told_leftBits_58 rfl) d_Told_leftBits_61 d_Told_leftBits_62 rfl d_Told_leftBits_65 rfl) (e_zald (p1 := 70) (p2 := 72) (e_gR (k0 := 6) (p1 := 67) cf_10 (e_aload_n (k0 := 0) d_Told_leftBits_66 rfl rfl) (by decide) tw_524 d_Told_leftBits_67) (e_iload (k0 := 5) d_Told_leftBits_70 rfl) d_Told_leftBits_72) d_Told_leftBits_73 rfl) d_Told_leftBits_76 d_Told_leftBits_77 rfl d_Told_leftBits_80 rfl) (t_istore d_Told_leftBits_81 (by decide)) rfl rfl) (s_goto (p1 := 86) (s_inc (k0 := 5) d_Told_leftBits_83 rfl rfl (Nat.le_of_ble_eq_true rfl) rfl) d_Told_leftBits_86 rfl))) rfl) (s_if (pt := 94) (pf := 100) (c_if_eqF (p1 := 91) (tg := 100) (e_iload (k0 := 4) d_Told_leftBits_89 rfl) d_Told_leftBits_91 rfl) (s_set (k0 := 2) (p1 := 99) (e_ior (p1 := 95) (p2 := 98) (e_iload_n (k0 := 2) d_Told_leftBits_94 rfl rfl) (e_ishl (p1 := 96) (p2 := 97) (e_iconst d_Told_leftBits_95 (by decide)) (e_iload_n (k0 := 3) d_Told_leftBits_96 rfl rfl) d_Told_leftBits_97) d_Told_leftBits_98) (t_istore_n d_Told_leftBits_99 rfl (by decide)) rfl rfl) s_skip))) rfl) (s_goto (p1 := 103) (s_inc (k0 := 3) d_Told_leftBits_100 rfl rfl (Nat.le_of_ble_eq_true rfl) rfl) d_Told_leftBits_103 rfl))) rfl) (s_ret (p1 := 107) (e_iload_n (k0 := 2) d_Told_leftBits_106 rfl rfl) rfl d_Told_leftBits_107))))
/-! BlinkerCross$Told.leftAtWorst(III)I -/
abbrev y_Told_leftAtWorst : MethodName := ⟨"BlinkerCross$Told", "leftAtWorst", "(III)I"⟩
abbrev Y_Told_leftAtWorst : Yt := (prog_12_method_5_code, 7, "BlinkerCross$Told", 5, (some .int), "leftAtWorst")
theorem d_Told_leftAtWorst_0 : decode prog_12_method_5_code 0 = .ok (.iconst 0, 1) := by decide +kernel
theorem d_Told_leftAtWorst_1 : decode prog_12_method_5_code 1 = .ok (.istore 4, 2) := by decide +kernel
theorem d_Told_leftAtWorst_3 : decode prog_12_method_5_code 3 = .ok (.iconst 0, 1) := by decide +kernel
theorem d_Told_leftAtWorst_4 : decode prog_12_method_5_code 4 = .ok (.istore 5, 2) := by decide +kernel
theorem d_Told_leftAtWorst_6 : decode prog_12_method_5_code 6 = .ok (.iconst 0, 1) := by decide +kernel
theorem d_Told_leftAtWorst_7 : decode prog_12_method_5_code 7 = .ok (.istore 6, 2) := by decide +kernel
theorem d_Told_leftAtWorst_9 : decode prog_12_method_5_code 9 = .ok (.iload 6, 2) := by decide +kernel
theorem d_Told_leftAtWorst_11 : decode prog_12_method_5_code 11 = .ok (.aload_n 0, 1) := by decide +kernel
theorem d_Told_leftAtWorst_12 : decode prog_12_method_5_code 12 = .ok (.getfield 22, 3) := by decide +kernel
theorem d_Told_leftAtWorst_15 : decode prog_12_method_5_code 15 = .ok (.getfield 38, 3) := by decide +kernel
theorem d_Told_leftAtWorst_18 : decode prog_12_method_5_code 18 = .ok (.if_icmp .ge 39, 3) := by decide +kernel
theorem d_Told_leftAtWorst_21 : decode prog_12_method_5_code 21 = .ok (.iload_n 2, 1) := by decide +kernel
theorem d_Told_leftAtWorst_22 : decode prog_12_method_5_code 22 = .ok (.iload 6, 2) := by decide +kernel
theorem d_Told_leftAtWorst_24 : decode prog_12_method_5_code 24 = .ok (.ishr, 1) := by decide +kernel
theorem d_Told_leftAtWorst_25 : decode prog_12_method_5_code 25 = .ok (.iconst 1, 1) := by decide +kernel
theorem d_Told_leftAtWorst_26 : decode prog_12_method_5_code 26 = .ok (.iand, 1) := by decide +kernel
theorem d_Told_leftAtWorst_27 : decode prog_12_method_5_code 27 = .ok (.iconst 1, 1) := by decide +kernel
theorem d_Told_leftAtWorst_28 : decode prog_12_method_5_code 28 = .ok (.if_icmp .ne 23, 3) := by decide +kernel
theorem d_Told_leftAtWorst_31 : decode prog_12_method_5_code 31 = .ok (.aload_n 0, 1) := by decide +kernel
theorem d_Told_leftAtWorst_32 : decode prog_12_method_5_code 32 = .ok (.iload_n 1, 1) := by decide +kernel
theorem d_Told_leftAtWorst_33 : decode prog_12_method_5_code 33 = .ok (.iload 6, 2) := by decide +kernel
theorem d_Told_leftAtWorst_35 : decode prog_12_method_5_code 35 = .ok (.invokevirtual 43, 3) := by decide +kernel
theorem d_Told_leftAtWorst_38 : decode prog_12_method_5_code 38 = .ok (.iload_n 3, 1) := by decide +kernel
theorem d_Told_leftAtWorst_39 : decode prog_12_method_5_code 39 = .ok (.if_icmp .lt 9, 3) := by decide +kernel
theorem d_Told_leftAtWorst_42 : decode prog_12_method_5_code 42 = .ok (.iinc 4 1, 3) := by decide +kernel
theorem d_Told_leftAtWorst_45 : decode prog_12_method_5_code 45 = .ok (.goto 6, 3) := by decide +kernel
theorem d_Told_leftAtWorst_48 : decode prog_12_method_5_code 48 = .ok (.iinc 5 1, 3) := by decide +kernel
theorem d_Told_leftAtWorst_51 : decode prog_12_method_5_code 51 = .ok (.iinc 6 1, 3) := by decide +kernel
theorem d_Told_leftAtWorst_54 : decode prog_12_method_5_code 54 = .ok (.goto (-45), 3) := by decide +kernel
theorem d_Told_leftAtWorst_57 : decode prog_12_method_5_code 57 = .ok (.iload 4, 2) := by decide +kernel
theorem d_Told_leftAtWorst_59 : decode prog_12_method_5_code 59 = .ok (.iload 5, 2) := by decide +kernel
theorem d_Told_leftAtWorst_61 : decode prog_12_method_5_code 61 = .ok (.invokestatic 51, 3) := by decide +kernel
theorem d_Told_leftAtWorst_64 : decode prog_12_method_5_code 64 = .ok (.ireturn, 1) := by decide +kernel
noncomputable def Lc_Told_leftAtWorst_1 : Xp Bool := o2 (fun x y => decide (x < y)) (vI 6) (gI 2 1 (gR 10 1 (vR 0)))
noncomputable def Lb_Told_leftAtWorst_1 : Sm := sIf (o2 (fun x y => decide (x = y)) (o2 (fun x y => x &&& y) (o2 (fun (x y : Int32) => x >>> (y &&& 31)) (vI 2) (vI 6)) (kI (ii 1))) (kI (ii 1))) (sIf (o2 (fun x y => decide (x ≥ y)) (cI (mV 10 D_Told_markOf) [asV Value.ref (vR 0), asV Value.int (vI 1), asV Value.int (vI 6)]) (vI 3)) (sInc 4 (ii 1)) (sInc 5 (ii 1))) (sSkip)
noncomputable def Lu_Told_leftAtWorst_1 : Sm := sInc 6 (ii 1)
noncomputable def F_Told_leftAtWorst : Sm := sSeq (sDecl (asV Value.int (kI (ii 0)))) (sSeq (sDecl (asV Value.int (kI (ii 0)))) (sSeq (sBlk 6 (sSeq (sDecl (asV Value.int (kI (ii 0)))) (sWh (Lc_Told_leftAtWorst_1) (Lb_Told_leftAtWorst_1) Lu_Told_leftAtWorst_1))) (sRet (asV Value.int (o2 (fun x y => if x < y then y else x) (vI 4) (vI 5))))))
theorem mf_Told_leftAtWorst : Mf y_Told_leftAtWorst prog_12_method_5_code 7 (some .int) 3 := ⟨tw_1283, tw_132, by decide +kernel⟩
noncomputable def D_Told_leftAtWorst : Dn := runS [1, 1, 1, 1] F_Told_leftAtWorst
theorem ok_Told_leftAtWorst : MOK y_Told_leftAtWorst prog_12_method_5_code 7 (some .int) 5 0 0 D_Told_leftAtWorst := MOK.of (by decide) (by decide) (show SO Y_Told_leftAtWorst [(0, 1), (1, 1), (2, 1), (3, 1)] [(0, 1), (1, 1), (2, 1), (3, 1), (4, 1), (5, 1)] 0 65 (([], 0), ([], 0)) F_Told_leftAtWorst from
  (s_seq (sl1 := [(0, 1), (1, 1), (2, 1), (3, 1), (4, 1)]) (p1 := 3) (s_decl (p1 := 1) (e_iconst d_Told_leftAtWorst_0 (by decide)) (t_istore d_Told_leftAtWorst_1 (by decide)) rfl) (s_seq (sl1 := [(0, 1), (1, 1), (2, 1), (3, 1), (4, 1), (5, 1)]) (p1 := 6) (s_decl (p1 := 4) (e_iconst d_Told_leftAtWorst_3 (by decide)) (t_istore d_Told_leftAtWorst_4 (by decide)) rfl) (s_seq (sl1 := [(0, 1), (1, 1), (2, 1), (3, 1), (4, 1), (5, 1)]) (p1 := 57) (s_blk (sl1 := [(0, 1), (1, 1), (2, 1), (3, 1), (4, 1), (5, 1), (6, 1)]) (s_seq (sl1 := [(0, 1), (1, 1), (2, 1), (3, 1), (4, 1), (5, 1), (6, 1)]) (p1 := 9) (s_decl (p1 := 7) (e_iconst d_Told_leftAtWorst_6 (by decide)) (t_istore d_Told_leftAtWorst_7 (by decide)) rfl) (s_for (pt := 21) (pu := 51) (pf := 57) (pg := 0) (c_icmp_geF (p1 := 11) (p2 := 18) (tg := 57) (e_iload (k0 := 6) d_Told_leftAtWorst_9 rfl) (e_gI (k0 := 1) (p1 := 15) cf_2 (e_gR (k0 := 1) (p1 := 12) cf_10 (e_aload_n (k0 := 0) d_Told_leftAtWorst_11 rfl rfl) (by decide) tw_519 d_Told_leftAtWorst_12) (by decide) tw_206 d_Told_leftAtWorst_15) d_Told_leftAtWorst_18 rfl) (s_if (pt := 31) (pf := 51) (c_icmp_neF (p1 := 27) (p2 := 28) (tg := 51) (e_iand (p1 := 25) (p2 := 26) (e_ishr (p1 := 22) (p2 := 24) (e_iload_n (k0 := 2) d_Told_leftAtWorst_21 rfl rfl) (e_iload (k0 := 6) d_Told_leftAtWorst_22 rfl) d_Told_leftAtWorst_24) (e_iconst d_Told_leftAtWorst_25 (by decide)) d_Told_leftAtWorst_26) (e_iconst d_Told_leftAtWorst_27 (by decide)) d_Told_leftAtWorst_28 rfl) (s_if (pt := 42) (pf := 48) (p1 := 51) (c_icmp_ltF (p1 := 38) (p2 := 39) (tg := 48) (e_cI (p1 := 35) (a_cons (ι := Value.ref) (k0 := 1) (p1 := 32) (fun _ => rfl) (e_aload_n (k0 := 0) d_Told_leftAtWorst_31 rfl rfl) (a_cons (ι := Value.int) (k0 := 1) (p1 := 33) (fun _ => rfl) (e_iload_n (k0 := 1) d_Told_leftAtWorst_32 rfl rfl) (a_cons (ι := Value.int) (k0 := 1) (p1 := 35) (fun _ => rfl) (e_iload (k0 := 6) d_Told_leftAtWorst_33 rfl) a_nil))) (k_virt ok_Told_markOf mf_Told_markOf ⟨tw_1257, tw_44⟩ rfl tw_1255 d_Told_leftAtWorst_35 (by decide) (by decide) (by decide))) (e_iload_n (k0 := 3) d_Told_leftAtWorst_38 rfl rfl) d_Told_leftAtWorst_39 rfl) (s_goto (p1 := 45) (s_inc (k0 := 4) d_Told_leftAtWorst_42 rfl rfl (Nat.le_of_ble_eq_true rfl) rfl) d_Told_leftAtWorst_45 rfl) (s_inc (k0 := 5) d_Told_leftAtWorst_48 rfl rfl (Nat.le_of_ble_eq_true rfl) rfl)) s_skip) (s_goto (p1 := 54) (s_inc (k0 := 6) d_Told_leftAtWorst_51 rfl rfl (Nat.le_of_ble_eq_true rfl) rfl) d_Told_leftAtWorst_54 rfl))) rfl) (s_ret (p1 := 64) (e_max (p1 := 59) (p2 := 61) (e_iload (k0 := 4) d_Told_leftAtWorst_57 rfl) (e_iload (k0 := 5) d_Told_leftAtWorst_59 rfl) ⟨tw_1284, tw_720, tw_139, tw_721⟩ d_Told_leftAtWorst_61 (by decide) (by decide)) rfl d_Told_leftAtWorst_64)))))
/-! BlinkerCross$Told.bestMark(II)I -/
abbrev y_Told_bestMark : MethodName := ⟨"BlinkerCross$Told", "bestMark", "(II)I"⟩
abbrev Y_Told_bestMark : Yt := (prog_12_method_4_code, 7, "BlinkerCross$Told", 6, (some .int), "bestMark")
theorem d_Told_bestMark_0 : decode prog_12_method_4_code 0 = .ok (.iconst 0, 1) := by decide +kernel
theorem d_Told_bestMark_1 : decode prog_12_method_4_code 1 = .ok (.istore_n 3, 1) := by decide +kernel
theorem d_Told_bestMark_2 : decode prog_12_method_4_code 2 = .ok (.bipush 6, 2) := by decide +kernel
theorem d_Told_bestMark_4 : decode prog_12_method_4_code 4 = .ok (.istore 4, 2) := by decide +kernel
theorem d_Told_bestMark_6 : decode prog_12_method_4_code 6 = .ok (.iconst 0, 1) := by decide +kernel
theorem d_Told_bestMark_7 : decode prog_12_method_4_code 7 = .ok (.istore 5, 2) := by decide +kernel
theorem d_Told_bestMark_9 : decode prog_12_method_4_code 9 = .ok (.iload 5, 2) := by decide +kernel
theorem d_Told_bestMark_11 : decode prog_12_method_4_code 11 = .ok (.iconst 5, 1) := by decide +kernel
theorem d_Told_bestMark_12 : decode prog_12_method_4_code 12 = .ok (.if_icmp .ge 33, 3) := by decide +kernel
theorem d_Told_bestMark_15 : decode prog_12_method_4_code 15 = .ok (.aload_n 0, 1) := by decide +kernel
theorem d_Told_bestMark_16 : decode prog_12_method_4_code 16 = .ok (.iload 5, 2) := by decide +kernel
theorem d_Told_bestMark_18 : decode prog_12_method_4_code 18 = .ok (.iload_n 1, 1) := by decide +kernel
theorem d_Told_bestMark_19 : decode prog_12_method_4_code 19 = .ok (.iload_n 2, 1) := by decide +kernel
theorem d_Told_bestMark_20 : decode prog_12_method_4_code 20 = .ok (.invokevirtual 47, 3) := by decide +kernel
theorem d_Told_bestMark_23 : decode prog_12_method_4_code 23 = .ok (.istore 6, 2) := by decide +kernel
theorem d_Told_bestMark_25 : decode prog_12_method_4_code 25 = .ok (.iload 6, 2) := by decide +kernel
theorem d_Told_bestMark_27 : decode prog_12_method_4_code 27 = .ok (.iload 4, 2) := by decide +kernel
theorem d_Told_bestMark_29 : decode prog_12_method_4_code 29 = .ok (.if_icmp .ge 10, 3) := by decide +kernel
theorem d_Told_bestMark_32 : decode prog_12_method_4_code 32 = .ok (.iload 6, 2) := by decide +kernel
theorem d_Told_bestMark_34 : decode prog_12_method_4_code 34 = .ok (.istore 4, 2) := by decide +kernel
theorem d_Told_bestMark_36 : decode prog_12_method_4_code 36 = .ok (.iload 5, 2) := by decide +kernel
theorem d_Told_bestMark_38 : decode prog_12_method_4_code 38 = .ok (.istore_n 3, 1) := by decide +kernel
theorem d_Told_bestMark_39 : decode prog_12_method_4_code 39 = .ok (.iinc 5 1, 3) := by decide +kernel
theorem d_Told_bestMark_42 : decode prog_12_method_4_code 42 = .ok (.goto (-33), 3) := by decide +kernel
theorem d_Told_bestMark_45 : decode prog_12_method_4_code 45 = .ok (.iload_n 3, 1) := by decide +kernel
theorem d_Told_bestMark_46 : decode prog_12_method_4_code 46 = .ok (.ireturn, 1) := by decide +kernel
noncomputable def Lc_Told_bestMark_1 : Xp Bool := o2 (fun x y => decide (x < y)) (vI 5) (kI (ii 5))
noncomputable def Lb_Told_bestMark_1 : Sm := sBlk 6 (sSeq (sDecl (asV Value.int (cI (mV 10 D_Told_leftAtWorst) [asV Value.ref (vR 0), asV Value.int (vI 5), asV Value.int (vI 1), asV Value.int (vI 2)]))) (sIf (o2 (fun x y => decide (x < y)) (vI 6) (vI 4)) (sSeq (sSet 4 (asV Value.int (vI 6))) (sSet 3 (asV Value.int (vI 5)))) (sSkip)))
noncomputable def Lu_Told_bestMark_1 : Sm := sInc 5 (ii 1)
noncomputable def F_Told_bestMark : Sm := sSeq (sDecl (asV Value.int (kI (ii 0)))) (sSeq (sDecl (asV Value.int (kI (ii 6)))) (sSeq (sBlk 5 (sSeq (sDecl (asV Value.int (kI (ii 0)))) (sWh (Lc_Told_bestMark_1) (Lb_Told_bestMark_1) Lu_Told_bestMark_1))) (sRet (asV Value.int (vI 3)))))
theorem mf_Told_bestMark : Mf y_Told_bestMark prog_12_method_4_code 7 (some .int) 2 := ⟨tw_1279, tw_132, by decide +kernel⟩
noncomputable def D_Told_bestMark : Dn := runS [1, 1, 1] F_Told_bestMark
theorem ok_Told_bestMark : MOK y_Told_bestMark prog_12_method_4_code 7 (some .int) 6 0 0 D_Told_bestMark := MOK.of (by decide) (by decide) (show SO Y_Told_bestMark [(0, 1), (1, 1), (2, 1)] [(0, 1), (1, 1), (2, 1), (3, 1), (4, 1)] 0 47 (([], 0), ([], 0)) F_Told_bestMark from
  (s_seq (sl1 := [(0, 1), (1, 1), (2, 1), (3, 1)]) (p1 := 2) (s_decl (p1 := 1) (e_iconst d_Told_bestMark_0 (by decide)) (t_istore_n d_Told_bestMark_1 rfl (by decide)) rfl) (s_seq (sl1 := [(0, 1), (1, 1), (2, 1), (3, 1), (4, 1)]) (p1 := 6) (s_decl (p1 := 4) (e_bipush d_Told_bestMark_2 (by decide)) (t_istore d_Told_bestMark_4 (by decide)) rfl) (s_seq (sl1 := [(0, 1), (1, 1), (2, 1), (3, 1), (4, 1)]) (p1 := 45) (s_blk (sl1 := [(0, 1), (1, 1), (2, 1), (3, 1), (4, 1), (5, 1)]) (s_seq (sl1 := [(0, 1), (1, 1), (2, 1), (3, 1), (4, 1), (5, 1)]) (p1 := 9) (s_decl (p1 := 7) (e_iconst d_Told_bestMark_6 (by decide)) (t_istore d_Told_bestMark_7 (by decide)) rfl) (s_for (pt := 15) (pu := 39) (pf := 45) (pg := 0) (c_icmp_geF (p1 := 11) (p2 := 12) (tg := 45) (e_iload (k0 := 5) d_Told_bestMark_9 rfl) (e_iconst d_Told_bestMark_11 (by decide)) d_Told_bestMark_12 rfl) (s_blk (sl1 := [(0, 1), (1, 1), (2, 1), (3, 1), (4, 1), (5, 1), (6, 1)]) (s_seq (sl1 := [(0, 1), (1, 1), (2, 1), (3, 1), (4, 1), (5, 1), (6, 1)]) (p1 := 25) (s_decl (p1 := 23) (e_cI (p1 := 20) (a_cons (ι := Value.ref) (k0 := 1) (p1 := 16) (fun _ => rfl) (e_aload_n (k0 := 0) d_Told_bestMark_15 rfl rfl) (a_cons (ι := Value.int) (k0 := 1) (p1 := 18) (fun _ => rfl) (e_iload (k0 := 5) d_Told_bestMark_16 rfl) (a_cons (ι := Value.int) (k0 := 1) (p1 := 19) (fun _ => rfl) (e_iload_n (k0 := 1) d_Told_bestMark_18 rfl rfl) (a_cons (ι := Value.int) (k0 := 1) (p1 := 20) (fun _ => rfl) (e_iload_n (k0 := 2) d_Told_bestMark_19 rfl rfl) a_nil)))) (k_virt ok_Told_leftAtWorst mf_Told_leftAtWorst ⟨tw_1282, tw_45⟩ rfl tw_1280 d_Told_bestMark_20 (by decide) (by decide) (by decide))) (t_istore d_Told_bestMark_23 (by decide)) rfl) (s_if (pt := 32) (pf := 39) (c_icmp_geF (p1 := 27) (p2 := 29) (tg := 39) (e_iload (k0 := 6) d_Told_bestMark_25 rfl) (e_iload (k0 := 4) d_Told_bestMark_27 rfl) d_Told_bestMark_29 rfl) (s_seq (sl1 := [(0, 1), (1, 1), (2, 1), (3, 1), (4, 1), (5, 1), (6, 1)]) (p1 := 36) (s_set (k0 := 4) (p1 := 34) (e_iload (k0 := 6) d_Told_bestMark_32 rfl) (t_istore d_Told_bestMark_34 (by decide)) rfl rfl) (s_set (k0 := 3) (p1 := 38) (e_iload (k0 := 5) d_Told_bestMark_36 rfl) (t_istore_n d_Told_bestMark_38 rfl (by decide)) rfl rfl)) s_skip)) rfl) (s_goto (p1 := 42) (s_inc (k0 := 5) d_Told_bestMark_39 rfl rfl (Nat.le_of_ble_eq_true rfl) rfl) d_Told_bestMark_42 rfl))) rfl) (s_ret (p1 := 46) (e_iload_n (k0 := 3) d_Told_bestMark_45 rfl rfl) rfl d_Told_bestMark_46)))))

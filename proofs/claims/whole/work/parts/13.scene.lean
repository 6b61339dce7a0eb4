/-! Methods: bytes, denotations, that the bytes do so (written by wip/whole/jgen.py). -/
/-! BlinkerCross$Scene.roadAt(II)I -/
abbrev y_Scene_roadAt : MethodName := ⟨"BlinkerCross$Scene", "roadAt", "(II)I"⟩
abbrev Y_Scene_roadAt : Yt := (prog_8_method_8_code, 4, "BlinkerCross$Scene", 0, (some .int), "roadAt")
theorem d_Scene_roadAt_0 : decode prog_8_method_8_code 0 = .ok (.aload_n 0, 1) := by decide +kernel
theorem d_Scene_roadAt_1 : decode prog_8_method_8_code 1 = .ok (.getfield 9, 3) := by decide +kernel
theorem d_Scene_roadAt_4 : decode prog_8_method_8_code 4 = .ok (.iconst 0, 1) := by decide +kernel
theorem d_Scene_roadAt_5 : decode prog_8_method_8_code 5 = .ok (.iload_n 1, 1) := by decide +kernel
theorem d_Scene_roadAt_6 : decode prog_8_method_8_code 6 = .ok (.iadd, 1) := by decide +kernel
theorem d_Scene_roadAt_7 : decode prog_8_method_8_code 7 = .ok (.iaload, 1) := by decide +kernel
theorem d_Scene_roadAt_8 : decode prog_8_method_8_code 8 = .ok (.iload_n 2, 1) := by decide +kernel
theorem d_Scene_roadAt_9 : decode prog_8_method_8_code 9 = .ok (.iadd, 1) := by decide +kernel
theorem d_Scene_roadAt_10 : decode prog_8_method_8_code 10 = .ok (.istore_n 3, 1) := by decide +kernel
theorem d_Scene_roadAt_11 : decode prog_8_method_8_code 11 = .ok (.iload_n 3, 1) := by decide +kernel
theorem d_Scene_roadAt_12 : decode prog_8_method_8_code 12 = .ok (.aload_n 0, 1) := by decide +kernel
theorem d_Scene_roadAt_13 : decode prog_8_method_8_code 13 = .ok (.getfield 21, 3) := by decide +kernel
theorem d_Scene_roadAt_16 : decode prog_8_method_8_code 16 = .ok (.getfield 56, 3) := by decide +kernel
theorem d_Scene_roadAt_19 : decode prog_8_method_8_code 19 = .ok (.if_icmp .lt 15, 3) := by decide +kernel
theorem d_Scene_roadAt_22 : decode prog_8_method_8_code 22 = .ok (.iload_n 3, 1) := by decide +kernel
theorem d_Scene_roadAt_23 : decode prog_8_method_8_code 23 = .ok (.aload_n 0, 1) := by decide +kernel
theorem d_Scene_roadAt_24 : decode prog_8_method_8_code 24 = .ok (.getfield 21, 3) := by decide +kernel
theorem d_Scene_roadAt_27 : decode prog_8_method_8_code 27 = .ok (.getfield 56, 3) := by decide +kernel
theorem d_Scene_roadAt_30 : decode prog_8_method_8_code 30 = .ok (.isub, 1) := by decide +kernel
theorem d_Scene_roadAt_31 : decode prog_8_method_8_code 31 = .ok (.goto 4, 3) := by decide +kernel
theorem d_Scene_roadAt_34 : decode prog_8_method_8_code 34 = .ok (.iload_n 3, 1) := by decide +kernel
theorem d_Scene_roadAt_35 : decode prog_8_method_8_code 35 = .ok (.ireturn, 1) := by decide +kernel
noncomputable def F_Scene_roadAt : Sm := sSeq (sDecl (asV Value.int (o2 (fun x y => x + y) (aI 0 (gR 4 0 (vR 0)) (o2 (fun x y => x + y) (kI (ii 0)) (vI 1))) (vI 2)))) (sRet (asV Value.int (iX (o2 (fun x y => decide (x ≥ y)) (vI 3) (gI 2 0 (gR 4 4 (vR 0)))) (o2 (fun x y => x - y) (vI 3) (gI 2 0 (gR 4 4 (vR 0)))) (vI 3))))
theorem mf_Scene_roadAt : Mf y_Scene_roadAt prog_8_method_8_code 4 (some .int) 2 := ⟨tw_871, tw_126, by decide +kernel⟩
noncomputable def D_Scene_roadAt : Dn := runS [1, 1, 1] F_Scene_roadAt
theorem ok_Scene_roadAt : MOK y_Scene_roadAt prog_8_method_8_code 4 (some .int) 0 0 0 D_Scene_roadAt := MOK.of (by decide) (by decide) (show SO Y_Scene_roadAt [(0, 1), (1, 1), (2, 1)] [(0, 1), (1, 1), (2, 1), (3, 1)] 0 36 (([], 0), ([], 0)) F_Scene_roadAt from
  (s_seq (sl1 := [(0, 1), (1, 1), (2, 1), (3, 1)]) (p1 := 11) (s_decl (p1 := 10) (e_iadd (p1 := 8) (p2 := 9) (e_iald (p1 := 4) (p2 := 7) (e_gR (k0 := 0) (p1 := 1) cf_4 (e_aload_n (k0 := 0) d_Scene_roadAt_0 rfl rfl) (by decide) tw_316 d_Scene_roadAt_1) (e_iadd (p1 := 5) (p2 := 6) (e_iconst d_Scene_roadAt_4 (by decide)) (e_iload_n (k0 := 1) d_Scene_roadAt_5 rfl rfl) d_Scene_roadAt_6) d_Scene_roadAt_7) (e_iload_n (k0 := 2) d_Scene_roadAt_8 rfl rfl) d_Scene_roadAt_9) (t_istore_n d_Scene_roadAt_10 rfl (by decide)) rfl) (s_ret (p1 := 35) (e_ite (pt := 22) (p1 := 31) (pf := 34) (c_icmp_ltF (p1 := 12) (p2 := 19) (tg := 34) (e_iload_n (k0 := 3) d_Scene_roadAt_11 rfl rfl) (e_gI (k0 := 0) (p1 := 16) cf_2 (e_gR (k0 := 4) (p1 := 13) cf_4 (e_aload_n (k0 := 0) d_Scene_roadAt_12 rfl rfl) (by decide) tw_333 d_Scene_roadAt_13) (by decide) tw_200 d_Scene_roadAt_16) d_Scene_roadAt_19 rfl) (e_isub (p1 := 23) (p2 := 30) (e_iload_n (k0 := 3) d_Scene_roadAt_22 rfl rfl) (e_gI (k0 := 0) (p1 := 27) cf_2 (e_gR (k0 := 4) (p1 := 24) cf_4 (e_aload_n (k0 := 0) d_Scene_roadAt_23 rfl rfl) (by decide) tw_333 d_Scene_roadAt_24) (by decide) tw_200 d_Scene_roadAt_27) d_Scene_roadAt_30) d_Scene_roadAt_31 rfl (e_iload_n (k0 := 3) d_Scene_roadAt_34 rfl rfl)) rfl d_Scene_roadAt_35)))
/-! BlinkerCross$Scene.wantOf(II)I -/
abbrev y_Scene_wantOf : MethodName := ⟨"BlinkerCross$Scene", "wantOf", "(II)I"⟩
abbrev Y_Scene_wantOf : Yt := (prog_8_method_6_code, 3, "BlinkerCross$Scene", 0, (some .int), "wantOf")
theorem d_Scene_wantOf_0 : decode prog_8_method_6_code 0 = .ok (.aload_n 0, 1) := by decide +kernel
theorem d_Scene_wantOf_1 : decode prog_8_method_6_code 1 = .ok (.getfield 9, 3) := by decide +kernel
theorem d_Scene_wantOf_4 : decode prog_8_method_6_code 4 = .ok (.bipush 26, 2) := by decide +kernel
theorem d_Scene_wantOf_6 : decode prog_8_method_6_code 6 = .ok (.iload_n 1, 1) := by decide +kernel
theorem d_Scene_wantOf_7 : decode prog_8_method_6_code 7 = .ok (.bipush 6, 2) := by decide +kernel
theorem d_Scene_wantOf_9 : decode prog_8_method_6_code 9 = .ok (.imul, 1) := by decide +kernel
theorem d_Scene_wantOf_10 : decode prog_8_method_6_code 10 = .ok (.iadd, 1) := by decide +kernel
theorem d_Scene_wantOf_11 : decode prog_8_method_6_code 11 = .ok (.iload_n 2, 1) := by decide +kernel
theorem d_Scene_wantOf_12 : decode prog_8_method_6_code 12 = .ok (.iadd, 1) := by decide +kernel
theorem d_Scene_wantOf_13 : decode prog_8_method_6_code 13 = .ok (.iaload, 1) := by decide +kernel
theorem d_Scene_wantOf_14 : decode prog_8_method_6_code 14 = .ok (.ireturn, 1) := by decide +kernel
noncomputable def F_Scene_wantOf : Sm := sRet (asV Value.int (aI 0 (gR 4 0 (vR 0)) (o2 (fun x y => x + y) (o2 (fun x y => x + y) (kI (ii 26)) (o2 (fun x y => x * y) (vI 1) (kI (ii 6)))) (vI 2))))
theorem mf_Scene_wantOf : Mf y_Scene_wantOf prog_8_method_6_code 3 (some .int) 2 := ⟨tw_875, tw_126, by decide +kernel⟩
noncomputable def D_Scene_wantOf : Dn := runS [1, 1, 1] F_Scene_wantOf
theorem ok_Scene_wantOf : MOK y_Scene_wantOf prog_8_method_6_code 3 (some .int) 0 0 0 D_Scene_wantOf := MOK.of (by decide) (by decide) (show SO Y_Scene_wantOf [(0, 1), (1, 1), (2, 1)] [(0, 1), (1, 1), (2, 1)] 0 15 (([], 0), ([], 0)) F_Scene_wantOf from
  (s_ret (p1 := 14) (e_iald (p1 := 4) (p2 := 13) (e_gR (k0 := 0) (p1 := 1) cf_4 (e_aload_n (k0 := 0) d_Scene_wantOf_0 rfl rfl) (by decide) tw_316 d_Scene_wantOf_1) (e_iadd (p1 := 11) (p2 := 12) (e_iadd (p1 := 6) (p2 := 10) (e_bipush d_Scene_wantOf_4 (by decide)) (e_imul (p1 := 7) (p2 := 9) (e_iload_n (k0 := 1) d_Scene_wantOf_6 rfl rfl) (e_bipush d_Scene_wantOf_7 (by decide)) d_Scene_wantOf_9) d_Scene_wantOf_10) (e_iload_n (k0 := 2) d_Scene_wantOf_11 rfl rfl) d_Scene_wantOf_12) d_Scene_wantOf_13) rfl d_Scene_wantOf_14))
/-! BlinkerCross$Scene.choiceWith(III)I -/
abbrev y_Scene_choiceWith : MethodName := ⟨"BlinkerCross$Scene", "choiceWith", "(III)I"⟩
abbrev Y_Scene_choiceWith : Yt := (prog_8_method_9_code, 7, "BlinkerCross$Scene", 1, (some .int), "choiceWith")
theorem d_Scene_choiceWith_0 : decode prog_8_method_9_code 0 = .ok (.iconst (-1), 1) := by decide +kernel
theorem d_Scene_choiceWith_1 : decode prog_8_method_9_code 1 = .ok (.istore 4, 2) := by decide +kernel
theorem d_Scene_choiceWith_3 : decode prog_8_method_9_code 3 = .ok (.iconst 0, 1) := by decide +kernel
theorem d_Scene_choiceWith_4 : decode prog_8_method_9_code 4 = .ok (.istore 5, 2) := by decide +kernel
theorem d_Scene_choiceWith_6 : decode prog_8_method_9_code 6 = .ok (.iload 5, 2) := by decide +kernel
theorem d_Scene_choiceWith_8 : decode prog_8_method_9_code 8 = .ok (.iload_n 2, 1) := by decide +kernel
theorem d_Scene_choiceWith_9 : decode prog_8_method_9_code 9 = .ok (.if_icmp .ge 62, 3) := by decide +kernel
theorem d_Scene_choiceWith_12 : decode prog_8_method_9_code 12 = .ok (.iload 5, 2) := by decide +kernel
theorem d_Scene_choiceWith_14 : decode prog_8_method_9_code 14 = .ok (.aload_n 0, 1) := by decide +kernel
theorem d_Scene_choiceWith_15 : decode prog_8_method_9_code 15 = .ok (.getfield 21, 3) := by decide +kernel
theorem d_Scene_choiceWith_18 : decode prog_8_method_9_code 18 = .ok (.getfield 56, 3) := by decide +kernel
theorem d_Scene_choiceWith_21 : decode prog_8_method_9_code 21 = .ok (.if_icmp .ge 50, 3) := by decide +kernel
theorem d_Scene_choiceWith_24 : decode prog_8_method_9_code 24 = .ok (.aload_n 0, 1) := by decide +kernel
theorem d_Scene_choiceWith_25 : decode prog_8_method_9_code 25 = .ok (.iload_n 1, 1) := by decide +kernel
theorem d_Scene_choiceWith_26 : decode prog_8_method_9_code 26 = .ok (.iload 5, 2) := by decide +kernel
theorem d_Scene_choiceWith_28 : decode prog_8_method_9_code 28 = .ok (.invokevirtual 65, 3) := by decide +kernel
theorem d_Scene_choiceWith_31 : decode prog_8_method_9_code 31 = .ok (.istore 6, 2) := by decide +kernel
theorem d_Scene_choiceWith_33 : decode prog_8_method_9_code 33 = .ok (.iload 6, 2) := by decide +kernel
theorem d_Scene_choiceWith_35 : decode prog_8_method_9_code 35 = .ok (.iload_n 3, 1) := by decide +kernel
theorem d_Scene_choiceWith_36 : decode prog_8_method_9_code 36 = .ok (.if_icmp .eq 29, 3) := by decide +kernel
theorem d_Scene_choiceWith_39 : decode prog_8_method_9_code 39 = .ok (.iload 4, 2) := by decide +kernel
theorem d_Scene_choiceWith_41 : decode prog_8_method_9_code 41 = .ok (.ifCond .lt 20, 3) := by decide +kernel
theorem d_Scene_choiceWith_44 : decode prog_8_method_9_code 44 = .ok (.aload_n 0, 1) := by decide +kernel
theorem d_Scene_choiceWith_45 : decode prog_8_method_9_code 45 = .ok (.iload_n 1, 1) := by decide +kernel
theorem d_Scene_choiceWith_46 : decode prog_8_method_9_code 46 = .ok (.iload 6, 2) := by decide +kernel
theorem d_Scene_choiceWith_48 : decode prog_8_method_9_code 48 = .ok (.invokevirtual 68, 3) := by decide +kernel
theorem d_Scene_choiceWith_51 : decode prog_8_method_9_code 51 = .ok (.aload_n 0, 1) := by decide +kernel
theorem d_Scene_choiceWith_52 : decode prog_8_method_9_code 52 = .ok (.iload_n 1, 1) := by decide +kernel
theorem d_Scene_choiceWith_53 : decode prog_8_method_9_code 53 = .ok (.iload 4, 2) := by decide +kernel
theorem d_Scene_choiceWith_55 : decode prog_8_method_9_code 55 = .ok (.invokevirtual 68, 3) := by decide +kernel
theorem d_Scene_choiceWith_58 : decode prog_8_method_9_code 58 = .ok (.if_icmp .le 7, 3) := by decide +kernel
theorem d_Scene_choiceWith_61 : decode prog_8_method_9_code 61 = .ok (.iload 6, 2) := by decide +kernel
theorem d_Scene_choiceWith_63 : decode prog_8_method_9_code 63 = .ok (.istore 4, 2) := by decide +kernel
theorem d_Scene_choiceWith_65 : decode prog_8_method_9_code 65 = .ok (.iinc 5 1, 3) := by decide +kernel
theorem d_Scene_choiceWith_68 : decode prog_8_method_9_code 68 = .ok (.goto (-62), 3) := by decide +kernel
theorem d_Scene_choiceWith_71 : decode prog_8_method_9_code 71 = .ok (.iload 4, 2) := by decide +kernel
theorem d_Scene_choiceWith_73 : decode prog_8_method_9_code 73 = .ok (.ireturn, 1) := by decide +kernel
noncomputable def Lc_Scene_choiceWith_1 : Xp Bool := cAnd (o2 (fun x y => decide (x < y)) (vI 5) (vI 2)) (o2 (fun x y => decide (x < y)) (vI 5) (gI 2 0 (gR 4 4 (vR 0))))
noncomputable def Lb_Scene_choiceWith_1 : Sm := sBlk 6 (sSeq (sDecl (asV Value.int (cI (mV 4 D_Scene_roadAt) [asV Value.ref (vR 0), asV Value.int (vI 1), asV Value.int (vI 5)]))) (sIf (cAnd (o2 (fun x y => decide (x ≠ y)) (vI 6) (vI 3)) (cOr (o1 (fun x => decide (x < 0)) (vI 4)) (o2 (fun x y => decide (x > y)) (cI (mV 4 D_Scene_wantOf) [asV Value.ref (vR 0), asV Value.int (vI 1), asV Value.int (vI 6)]) (cI (mV 4 D_Scene_wantOf) [asV Value.ref (vR 0), asV Value.int (vI 1), asV Value.int (vI 4)])))) (sSet 4 (asV Value.int (vI 6))) (sSkip)))
noncomputable def Lu_Scene_choiceWith_1 : Sm := sInc 5 (ii 1)
noncomputable def F_Scene_choiceWith : Sm := sSeq (sDecl (asV Value.int (kI (ii (-1))))) (sSeq (sBlk 5 (sSeq (sDecl (asV Value.int (kI (ii 0)))) (sWh (Lc_Scene_choiceWith_1) (Lb_Scene_choiceWith_1) Lu_Scene_choiceWith_1))) (sRet (asV Value.int (vI 4))))
theorem mf_Scene_choiceWith : Mf y_Scene_choiceWith prog_8_method_9_code 7 (some .int) 3 := ⟨tw_867, tw_126, by decide +kernel⟩
noncomputable def D_Scene_choiceWith : Dn := runS [1, 1, 1, 1] F_Scene_choiceWith
theorem ok_Scene_choiceWith : MOK y_Scene_choiceWith prog_8_method_9_code 7 (some .int) 1 0 0 D_Scene_choiceWith := MOK.of (by decide) (by decide) (show SO Y_Scene_choiceWith [(0, 1), (1, 1), (2, 1), (3, 1)] [(0, 1), (1, 1), (2, 1), (3, 1), (4, 1)] 0 74 (([], 0), ([], 0)) F_Scene_choiceWith from
  (s_seq (sl1 := [(0, 1), (1, 1), (2, 1), (3, 1), (4, 1)]) (p1 := 3) (s_decl (p1 := 1) (e_iconst d_Scene_choiceWith_0 (by decide)) (t_istore d_Scene_choiceWith_1 (by decide)) rfl) (s_seq (sl1 := [(0, 1), (1, 1), (2, 1), (3, 1), (4, 1)]) (p1 := 71) (s_blk (sl1 := [(0, 1), (1, 1), (2, 1), (3, 1), (4, 1), (5, 1)]) (s_seq (sl1 := [(0, 1), (1, 1), (2, 1), (3, 1), (4, 1), (5, 1)]) (p1 := 6) (s_decl (p1 := 4) (e_iconst d_Scene_choiceWith_3 (by decide)) (t_istore d_Scene_choiceWith_4 (by decide)) rfl) (s_for (pt := 24) (pu := 65) (pf := 71) (pg := 0) (c_and (p1 := 12) (c_icmp_geF (p1 := 8) (p2 := 9) (tg := 71) (e_iload (k0 := 5) d_Scene_choiceWith_6 rfl) (e_iload_n (k0 := 2) d_Scene_choiceWith_8 rfl rfl) d_Scene_choiceWith_9 rfl) (c_icmp_geF (p1 := 14) (p2 := 21) (tg := 71) (e_iload (k0 := 5) d_Scene_choiceWith_12 rfl) (e_gI (k0 := 0) (p1 := 18) cf_2 (e_gR (k0 := 4) (p1 := 15) cf_4 (e_aload_n (k0 := 0) d_Scene_choiceWith_14 rfl rfl) (by decide) tw_333 d_Scene_choiceWith_15) (by decide) tw_200 d_Scene_choiceWith_18) d_Scene_choiceWith_21 rfl)) (s_blk (sl1 := [(0, 1), (1, 1), (2, 1), (3, 1), (4, 1), (5, 1), (6, 1)]) (s_seq (sl1 := [(0, 1), (1, 1), (2, 1), (3, 1), (4, 1), (5, 1), (6, 1)]) (p1 := 33) (s_decl (p1 := 31) (e_cI (p1 := 28) (a_cons (ι := Value.ref) (k0 := 1) (p1 := 25) (fun _ => rfl) (e_aload_n (k0 := 0) d_Scene_choiceWith_24 rfl rfl) (a_cons (ι := Value.int) (k0 := 1) (p1 := 26) (fun _ => rfl) (e_iload_n (k0 := 1) d_Scene_choiceWith_25 rfl rfl) (a_cons (ι := Value.int) (k0 := 1) (p1 := 28) (fun _ => rfl) (e_iload (k0 := 5) d_Scene_choiceWith_26 rfl) a_nil))) (k_virt ok_Scene_roadAt mf_Scene_roadAt ⟨tw_869, tw_870⟩ rfl tw_868 d_Scene_choiceWith_28 (by decide) (by decide) (by decide))) (t_istore d_Scene_choiceWith_31 (by decide)) rfl) (s_if (pt := 61) (pf := 65) (c_and (p1 := 39) (c_icmp_eqF (p1 := 35) (p2 := 36) (tg := 65) (e_iload (k0 := 6) d_Scene_choiceWith_33 rfl) (e_iload_n (k0 := 3) d_Scene_choiceWith_35 rfl rfl) d_Scene_choiceWith_36 rfl) (c_or (p1 := 44) (c_if_ltT (p1 := 41) (tg := 61) (e_iload (k0 := 4) d_Scene_choiceWith_39 rfl) d_Scene_choiceWith_41 rfl) (c_icmp_leF (p1 := 51) (p2 := 58) (tg := 65) (e_cI (p1 := 48) (a_cons (ι := Value.ref) (k0 := 1) (p1 := 45) (fun _ => rfl) (e_aload_n (k0 := 0) d_Scene_choiceWith_44 rfl rfl) (a_cons (ι := Value.int) (k0 := 1) (p1 := 46) (fun _ => rfl) (e_iload_n (k0 := 1) d_Scene_choiceWith_45 rfl rfl) (a_cons (ι := Value.int) (k0 := 1) (p1 := 48) (fun _ => rfl) (e_iload (k0 := 6) d_Scene_choiceWith_46 rfl) a_nil))) (k_virt ok_Scene_wantOf mf_Scene_wantOf ⟨tw_873, tw_874⟩ rfl tw_872 d_Scene_choiceWith_48 (by decide) (by decide) (by decide))) (e_cI (p1 := 55) (a_cons (ι := Value.ref) (k0 := 1) (p1 := 52) (fun _ => rfl) (e_aload_n (k0 := 0) d_Scene_choiceWith_51 rfl rfl) (a_cons (ι := Value.int) (k0 := 1) (p1 := 53) (fun _ => rfl) (e_iload_n (k0 := 1) d_Scene_choiceWith_52 rfl rfl) (a_cons (ι := Value.int) (k0 := 1) (p1 := 55) (fun _ => rfl) (e_iload (k0 := 4) d_Scene_choiceWith_53 rfl) a_nil))) (k_virt ok_Scene_wantOf mf_Scene_wantOf ⟨tw_873, tw_874⟩ rfl tw_872 d_Scene_choiceWith_55 (by decide) (by decide) (by decide))) d_Scene_choiceWith_58 rfl))) (s_set (k0 := 4) (p1 := 63) (e_iload (k0 := 6) d_Scene_choiceWith_61 rfl) (t_istore d_Scene_choiceWith_63 (by decide)) rfl rfl) s_skip)) rfl) (s_goto (p1 := 68) (s_inc (k0 := 5) d_Scene_choiceWith_65 rfl rfl (Nat.le_of_ble_eq_true rfl) rfl) d_Scene_choiceWith_68 rfl))) rfl) (s_ret (p1 := 73) (e_iload (k0 := 4) d_Scene_choiceWith_71 rfl) rfl d_Scene_choiceWith_73))))
/-! BlinkerCross$Scene.choose()V -/
abbrev y_Scene_choose : MethodName := ⟨"BlinkerCross$Scene", "choose", "()V"⟩
abbrev Y_Scene_choose : Yt := (prog_8_method_5_code, 3, "BlinkerCross$Scene", 2, none, "choose")
theorem d_Scene_choose_0 : decode prog_8_method_5_code 0 = .ok (.iconst 0, 1) := by decide +kernel
theorem d_Scene_choose_1 : decode prog_8_method_5_code 1 = .ok (.istore_n 1, 1) := by decide +kernel
theorem d_Scene_choose_2 : decode prog_8_method_5_code 2 = .ok (.iload_n 1, 1) := by decide +kernel
theorem d_Scene_choose_3 : decode prog_8_method_5_code 3 = .ok (.bipush 6, 2) := by decide +kernel
theorem d_Scene_choose_5 : decode prog_8_method_5_code 5 = .ok (.if_icmp .ge 16, 3) := by decide +kernel
theorem d_Scene_choose_8 : decode prog_8_method_5_code 8 = .ok (.aload_n 0, 1) := by decide +kernel
theorem d_Scene_choose_9 : decode prog_8_method_5_code 9 = .ok (.getfield 18, 3) := by decide +kernel
theorem d_Scene_choose_12 : decode prog_8_method_5_code 12 = .ok (.iload_n 1, 1) := by decide +kernel
theorem d_Scene_choose_13 : decode prog_8_method_5_code 13 = .ok (.iconst 0, 1) := by decide +kernel
theorem d_Scene_choose_14 : decode prog_8_method_5_code 14 = .ok (.iastore, 1) := by decide +kernel
theorem d_Scene_choose_15 : decode prog_8_method_5_code 15 = .ok (.iinc 1 1, 3) := by decide +kernel
theorem d_Scene_choose_18 : decode prog_8_method_5_code 18 = .ok (.goto (-16), 3) := by decide +kernel
theorem d_Scene_choose_21 : decode prog_8_method_5_code 21 = .ok (.iconst 0, 1) := by decide +kernel
theorem d_Scene_choose_22 : decode prog_8_method_5_code 22 = .ok (.istore_n 1, 1) := by decide +kernel
theorem d_Scene_choose_23 : decode prog_8_method_5_code 23 = .ok (.iload_n 1, 1) := by decide +kernel
theorem d_Scene_choose_24 : decode prog_8_method_5_code 24 = .ok (.aload_n 0, 1) := by decide +kernel
theorem d_Scene_choose_25 : decode prog_8_method_5_code 25 = .ok (.getfield 21, 3) := by decide +kernel
theorem d_Scene_choose_28 : decode prog_8_method_5_code 28 = .ok (.getfield 45, 3) := by decide +kernel
theorem d_Scene_choose_31 : decode prog_8_method_5_code 31 = .ok (.if_icmp .ge 45, 3) := by decide +kernel
theorem d_Scene_choose_34 : decode prog_8_method_5_code 34 = .ok (.aload_n 0, 1) := by decide +kernel
theorem d_Scene_choose_35 : decode prog_8_method_5_code 35 = .ok (.iload_n 1, 1) := by decide +kernel
theorem d_Scene_choose_36 : decode prog_8_method_5_code 36 = .ok (.aload_n 0, 1) := by decide +kernel
theorem d_Scene_choose_37 : decode prog_8_method_5_code 37 = .ok (.getfield 9, 3) := by decide +kernel
theorem d_Scene_choose_40 : decode prog_8_method_5_code 40 = .ok (.iconst 5, 1) := by decide +kernel
theorem d_Scene_choose_41 : decode prog_8_method_5_code 41 = .ok (.iload_n 1, 1) := by decide +kernel
theorem d_Scene_choose_42 : decode prog_8_method_5_code 42 = .ok (.iadd, 1) := by decide +kernel
theorem d_Scene_choose_43 : decode prog_8_method_5_code 43 = .ok (.iaload, 1) := by decide +kernel
theorem d_Scene_choose_44 : decode prog_8_method_5_code 44 = .ok (.iconst (-1), 1) := by decide +kernel
theorem d_Scene_choose_45 : decode prog_8_method_5_code 45 = .ok (.invokevirtual 49, 3) := by decide +kernel
theorem d_Scene_choose_48 : decode prog_8_method_5_code 48 = .ok (.istore_n 2, 1) := by decide +kernel
theorem d_Scene_choose_49 : decode prog_8_method_5_code 49 = .ok (.aload_n 0, 1) := by decide +kernel
theorem d_Scene_choose_50 : decode prog_8_method_5_code 50 = .ok (.getfield 15, 3) := by decide +kernel
theorem d_Scene_choose_53 : decode prog_8_method_5_code 53 = .ok (.iload_n 1, 1) := by decide +kernel
theorem d_Scene_choose_54 : decode prog_8_method_5_code 54 = .ok (.iload_n 2, 1) := by decide +kernel
theorem d_Scene_choose_55 : decode prog_8_method_5_code 55 = .ok (.iastore, 1) := by decide +kernel
theorem d_Scene_choose_56 : decode prog_8_method_5_code 56 = .ok (.iload_n 2, 1) := by decide +kernel
theorem d_Scene_choose_57 : decode prog_8_method_5_code 57 = .ok (.ifCond .lt 13, 3) := by decide +kernel
theorem d_Scene_choose_60 : decode prog_8_method_5_code 60 = .ok (.aload_n 0, 1) := by decide +kernel
theorem d_Scene_choose_61 : decode prog_8_method_5_code 61 = .ok (.getfield 18, 3) := by decide +kernel
theorem d_Scene_choose_64 : decode prog_8_method_5_code 64 = .ok (.iload_n 2, 1) := by decide +kernel
theorem d_Scene_choose_65 : decode prog_8_method_5_code 65 = .ok (.dup2, 1) := by decide +kernel
theorem d_Scene_choose_66 : decode prog_8_method_5_code 66 = .ok (.iaload, 1) := by decide +kernel
theorem d_Scene_choose_67 : decode prog_8_method_5_code 67 = .ok (.iconst 1, 1) := by decide +kernel
theorem d_Scene_choose_68 : decode prog_8_method_5_code 68 = .ok (.iadd, 1) := by decide +kernel
theorem d_Scene_choose_69 : decode prog_8_method_5_code 69 = .ok (.iastore, 1) := by decide +kernel
theorem d_Scene_choose_70 : decode prog_8_method_5_code 70 = .ok (.iinc 1 1, 3) := by decide +kernel
theorem d_Scene_choose_73 : decode prog_8_method_5_code 73 = .ok (.goto (-50), 3) := by decide +kernel
theorem d_Scene_choose_76 : decode prog_8_method_5_code 76 = .ok (.aload_n 0, 1) := by decide +kernel
theorem d_Scene_choose_77 : decode prog_8_method_5_code 77 = .ok (.dup, 1) := by decide +kernel
theorem d_Scene_choose_78 : decode prog_8_method_5_code 78 = .ok (.getfield 53, 3) := by decide +kernel
theorem d_Scene_choose_81 : decode prog_8_method_5_code 81 = .ok (.iconst 1, 1) := by decide +kernel
theorem d_Scene_choose_82 : decode prog_8_method_5_code 82 = .ok (.iadd, 1) := by decide +kernel
theorem d_Scene_choose_83 : decode prog_8_method_5_code 83 = .ok (.putfield 53, 3) := by decide +kernel
theorem d_Scene_choose_86 : decode prog_8_method_5_code 86 = .ok (.return_, 1) := by decide +kernel
noncomputable def Lc_Scene_choose_1 : Xp Bool := o2 (fun x y => decide (x < y)) (vI 1) (kI (ii 6))
noncomputable def Lb_Scene_choose_1 : Sm := sAst 0 (gR 4 2 (vR 0)) (vI 1) (kI (ii 0))
noncomputable def Lu_Scene_choose_1 : Sm := sInc 1 (ii 1)
noncomputable def Lc_Scene_choose_2 : Xp Bool := o2 (fun x y => decide (x < y)) (vI 1) (gI 2 1 (gR 4 4 (vR 0)))
noncomputable def Lb_Scene_choose_2 : Sm := sBlk 2 (sSeq (sDecl (asV Value.int (cI (mV 4 D_Scene_choiceWith) [asV Value.ref (vR 0), asV Value.int (vI 1), asV Value.int (aI 0 (gR 4 0 (vR 0)) (o2 (fun x y => x + y) (kI (ii 5)) (vI 1))), asV Value.int (kI (ii (-1)))]))) (sSeq (sAst 0 (gR 4 1 (vR 0)) (vI 1) (vI 2)) (sIf (o1 (fun x => decide (x ≥ 0)) (vI 2)) (sAop 0 (gR 4 2 (vR 0)) (vI 2) (fun x y => x + y) (kI (ii 1))) (sSkip))))
noncomputable def Lu_Scene_choose_2 : Sm := sInc 1 (ii 1)
noncomputable def F_Scene_choose : Sm := sSeq (sBlk 1 (sSeq (sDecl (asV Value.int (kI (ii 0)))) (sWh (Lc_Scene_choose_1) (Lb_Scene_choose_1) Lu_Scene_choose_1))) (sSeq (sBlk 1 (sSeq (sDecl (asV Value.int (kI (ii 0)))) (sWh (Lc_Scene_choose_2) (Lb_Scene_choose_2) Lu_Scene_choose_2))) (sSeq (sFop 4 3 (vR 0) (fun x y => x + y) (kI (ii 1))) (sRetV)))
theorem mf_Scene_choose : Mf y_Scene_choose prog_8_method_5_code 3 none 0 := ⟨tw_863, tw_126, by decide +kernel⟩
noncomputable def D_Scene_choose : Dn := runS [1] F_Scene_choose
theorem ok_Scene_choose : MOK y_Scene_choose prog_8_method_5_code 3 none 2 0 0 D_Scene_choose := MOK.of (by decide) (by decide) (show SO Y_Scene_choose [(0, 1)] [(0, 1)] 0 87 (([], 0), ([], 0)) F_Scene_choose from
  (s_seq (sl1 := [(0, 1)]) (p1 := 21) (s_blk (sl1 := [(0, 1), (1, 1)]) (s_seq (sl1 := [(0, 1), (1, 1)]) (p1 := 2) (s_decl (p1 := 1) (e_iconst d_Scene_choose_0 (by decide)) (t_istore_n d_Scene_choose_1 rfl (by decide)) rfl) (s_for (pt := 8) (pu := 15) (pf := 21) (pg := 0) (c_icmp_geF (p1 := 3) (p2 := 5) (tg := 21) (e_iload_n (k0 := 1) d_Scene_choose_2 rfl rfl) (e_bipush d_Scene_choose_3 (by decide)) d_Scene_choose_5 rfl) (s_ast (p1 := 12) (p2 := 13) (p3 := 14) (e_gR (k0 := 2) (p1 := 9) cf_4 (e_aload_n (k0 := 0) d_Scene_choose_8 rfl rfl) (by decide) tw_327 d_Scene_choose_9) (e_iload_n (k0 := 1) d_Scene_choose_12 rfl rfl) (e_iconst d_Scene_choose_13 (by decide)) (as_i d_Scene_choose_14)) (s_goto (p1 := 18) (s_inc (k0 := 1) d_Scene_choose_15 rfl rfl (Nat.le_of_ble_eq_true rfl) rfl) d_Scene_choose_18 rfl))) rfl) (s_seq (sl1 := [(0, 1)]) (p1 := 76) (s_blk (sl1 := [(0, 1), (1, 1)]) (s_seq (sl1 := [(0, 1), (1, 1)]) (p1 := 23) (s_decl (p1 := 22) (e_iconst d_Scene_choose_21 (by decide)) (t_istore_n d_Scene_choose_22 rfl (by decide)) rfl) (s_for (pt := 34) (pu := 70) (pf := 76) (pg := 0) (c_icmp_geF (p1 := 24) (p2 := 31) (tg := 76) (e_iload_n (k0 := 1) d_Scene_choose_23 rfl rfl) (e_gI (k0 := 1) (p1 := 28) cf_2 (e_gR (k0 := 4) (p1 := 25) cf_4 (e_aload_n (k0 := 0) d_Scene_choose_24 rfl rfl) (by decide) tw_333 d_Scene_choose_25) (by decide) tw_210 d_Scene_choose_28) d_Scene_choose_31 rfl) (s_blk (sl1 := [(0, 1), (1, 1), (2, 1)]) (s_seq (sl1 := [(0, 1), (1, 1), (2, 1)]) (p1 := 49) (s_decl (p1 := 48) (e_cI (p1 := 45) (a_cons (ι := Value.ref) (k0 := 1) (p1 := 35) (fun _ => rfl) (e_aload_n (k0 := 0) d_Scene_choose_34 rfl rfl) (a_cons (ι := Value.int) (k0 := 1) (p1 := 36) (fun _ => rfl) (e_iload_n (k0 := 1) d_Scene_choose_35 rfl rfl) (a_cons (ι := Value.int) (k0 := 1) (p1 := 44) (fun _ => rfl) (e_iald (p1 := 40) (p2 := 43) (e_gR (k0 := 0) (p1 := 37) cf_4 (e_aload_n (k0 := 0) d_Scene_choose_36 rfl rfl) (by decide) tw_316 d_Scene_choose_37) (e_iadd (p1 := 41) (p2 := 42) (e_iconst d_Scene_choose_40 (by decide)) (e_iload_n (k0 := 1) d_Scene_choose_41 rfl rfl) d_Scene_choose_42) d_Scene_choose_43) (a_cons (ι := Value.int) (k0 := 1) (p1 := 45) (fun _ => rfl) (e_iconst d_Scene_choose_44 (by decide)) a_nil)))) (k_virt ok_Scene_choiceWith mf_Scene_choiceWith ⟨tw_865, tw_866⟩ rfl tw_864 d_Scene_choose_45 (by decide) (by decide) (by decide))) (t_istore_n d_Scene_choose_48 rfl (by decide)) rfl) (s_seq (sl1 := [(0, 1), (1, 1), (2, 1)]) (p1 := 56) (s_ast (p1 := 53) (p2 := 54) (p3 := 55) (e_gR (k0 := 1) (p1 := 50) cf_4 (e_aload_n (k0 := 0) d_Scene_choose_49 rfl rfl) (by decide) tw_322 d_Scene_choose_50) (e_iload_n (k0 := 1) d_Scene_choose_53 rfl rfl) (e_iload_n (k0 := 2) d_Scene_choose_54 rfl rfl) (as_i d_Scene_choose_55)) (s_if (pt := 60) (pf := 70) (c_if_ltF (p1 := 57) (tg := 70) (e_iload_n (k0 := 2) d_Scene_choose_56 rfl rfl) d_Scene_choose_57 rfl) (s_aop (p1 := 64) (p2 := 65) (p3 := 68) (e_gR (k0 := 2) (p1 := 61) cf_4 (e_aload_n (k0 := 0) d_Scene_choose_60 rfl rfl) (by decide) tw_327 d_Scene_choose_61) (e_iload_n (k0 := 2) d_Scene_choose_64 rfl rfl) d_Scene_choose_65 (ad_i d_Scene_choose_66) (e_iconst d_Scene_choose_67 (by decide)) (op_iadd d_Scene_choose_68) (as_i d_Scene_choose_69)) s_skip))) rfl) (s_goto (p1 := 73) (s_inc (k0 := 1) d_Scene_choose_70 rfl rfl (Nat.le_of_ble_eq_true rfl) rfl) d_Scene_choose_73 rfl))) rfl) (s_seq (sl1 := [(0, 1)]) (p1 := 86) (s_fop (k0 := 3) (p1 := 77) (p2 := 82) cf_4 (e_aload_n (k0 := 0) d_Scene_choose_76 rfl rfl) d_Scene_choose_77 d_Scene_choose_78 (e_iconst d_Scene_choose_81 (by decide)) (op_iadd d_Scene_choose_82) (by decide) rfl tw_332 tw_332 rfl d_Scene_choose_83) (s_retV rfl d_Scene_choose_86)))))
/-! BlinkerCross$Scene.begin()V -/
abbrev y_Scene_begin : MethodName := ⟨"BlinkerCross$Scene", "begin", "()V"⟩
abbrev Y_Scene_begin : Yt := (prog_8_method_2_code, 2, "BlinkerCross$Scene", 3, none, "begin")
theorem d_Scene_begin_0 : decode prog_8_method_2_code 0 = .ok (.iconst 0, 1) := by decide +kernel
theorem d_Scene_begin_1 : decode prog_8_method_2_code 1 = .ok (.istore_n 1, 1) := by decide +kernel
theorem d_Scene_begin_2 : decode prog_8_method_2_code 2 = .ok (.iload_n 1, 1) := by decide +kernel
theorem d_Scene_begin_3 : decode prog_8_method_2_code 3 = .ok (.iconst 5, 1) := by decide +kernel
theorem d_Scene_begin_4 : decode prog_8_method_2_code 4 = .ok (.if_icmp .ge 81, 3) := by decide +kernel
theorem d_Scene_begin_7 : decode prog_8_method_2_code 7 = .ok (.aload_n 0, 1) := by decide +kernel
theorem d_Scene_begin_8 : decode prog_8_method_2_code 8 = .ok (.getfield 9, 3) := by decide +kernel
theorem d_Scene_begin_11 : decode prog_8_method_2_code 11 = .ok (.iconst 0, 1) := by decide +kernel
theorem d_Scene_begin_12 : decode prog_8_method_2_code 12 = .ok (.iload_n 1, 1) := by decide +kernel
theorem d_Scene_begin_13 : decode prog_8_method_2_code 13 = .ok (.iadd, 1) := by decide +kernel
theorem d_Scene_begin_14 : decode prog_8_method_2_code 14 = .ok (.aload_n 0, 1) := by decide +kernel
theorem d_Scene_begin_15 : decode prog_8_method_2_code 15 = .ok (.getfield 21, 3) := by decide +kernel
theorem d_Scene_begin_18 : decode prog_8_method_2_code 18 = .ok (.getfield 25, 3) := by decide +kernel
theorem d_Scene_begin_21 : decode prog_8_method_2_code 21 = .ok (.iload_n 1, 1) := by decide +kernel
theorem d_Scene_begin_22 : decode prog_8_method_2_code 22 = .ok (.iaload, 1) := by decide +kernel
theorem d_Scene_begin_23 : decode prog_8_method_2_code 23 = .ok (.iastore, 1) := by decide +kernel
theorem d_Scene_begin_24 : decode prog_8_method_2_code 24 = .ok (.aload_n 0, 1) := by decide +kernel
theorem d_Scene_begin_25 : decode prog_8_method_2_code 25 = .ok (.getfield 9, 3) := by decide +kernel
theorem d_Scene_begin_28 : decode prog_8_method_2_code 28 = .ok (.iconst 5, 1) := by decide +kernel
theorem d_Scene_begin_29 : decode prog_8_method_2_code 29 = .ok (.iload_n 1, 1) := by decide +kernel
theorem d_Scene_begin_30 : decode prog_8_method_2_code 30 = .ok (.iadd, 1) := by decide +kernel
theorem d_Scene_begin_31 : decode prog_8_method_2_code 31 = .ok (.aload_n 0, 1) := by decide +kernel
theorem d_Scene_begin_32 : decode prog_8_method_2_code 32 = .ok (.getfield 21, 3) := by decide +kernel
theorem d_Scene_begin_35 : decode prog_8_method_2_code 35 = .ok (.getfield 30, 3) := by decide +kernel
theorem d_Scene_begin_38 : decode prog_8_method_2_code 38 = .ok (.iload_n 1, 1) := by decide +kernel
theorem d_Scene_begin_39 : decode prog_8_method_2_code 39 = .ok (.iaload, 1) := by decide +kernel
theorem d_Scene_begin_40 : decode prog_8_method_2_code 40 = .ok (.iastore, 1) := by decide +kernel
theorem d_Scene_begin_41 : decode prog_8_method_2_code 41 = .ok (.aload_n 0, 1) := by decide +kernel
theorem d_Scene_begin_42 : decode prog_8_method_2_code 42 = .ok (.getfield 9, 3) := by decide +kernel
theorem d_Scene_begin_45 : decode prog_8_method_2_code 45 = .ok (.bipush 10, 2) := by decide +kernel
theorem d_Scene_begin_47 : decode prog_8_method_2_code 47 = .ok (.iload_n 1, 1) := by decide +kernel
theorem d_Scene_begin_48 : decode prog_8_method_2_code 48 = .ok (.iadd, 1) := by decide +kernel
theorem d_Scene_begin_49 : decode prog_8_method_2_code 49 = .ok (.aload_n 0, 1) := by decide +kernel
theorem d_Scene_begin_50 : decode prog_8_method_2_code 50 = .ok (.getfield 21, 3) := by decide +kernel
theorem d_Scene_begin_53 : decode prog_8_method_2_code 53 = .ok (.getfield 30, 3) := by decide +kernel
theorem d_Scene_begin_56 : decode prog_8_method_2_code 56 = .ok (.iload_n 1, 1) := by decide +kernel
theorem d_Scene_begin_57 : decode prog_8_method_2_code 57 = .ok (.iaload, 1) := by decide +kernel
theorem d_Scene_begin_58 : decode prog_8_method_2_code 58 = .ok (.iastore, 1) := by decide +kernel
theorem d_Scene_begin_59 : decode prog_8_method_2_code 59 = .ok (.aload_n 0, 1) := by decide +kernel
theorem d_Scene_begin_60 : decode prog_8_method_2_code 60 = .ok (.getfield 9, 3) := by decide +kernel
theorem d_Scene_begin_63 : decode prog_8_method_2_code 63 = .ok (.bipush 15, 2) := by decide +kernel
theorem d_Scene_begin_65 : decode prog_8_method_2_code 65 = .ok (.iload_n 1, 1) := by decide +kernel
theorem d_Scene_begin_66 : decode prog_8_method_2_code 66 = .ok (.iadd, 1) := by decide +kernel
theorem d_Scene_begin_67 : decode prog_8_method_2_code 67 = .ok (.iconst 0, 1) := by decide +kernel
theorem d_Scene_begin_68 : decode prog_8_method_2_code 68 = .ok (.iastore, 1) := by decide +kernel
theorem d_Scene_begin_69 : decode prog_8_method_2_code 69 = .ok (.aload_n 0, 1) := by decide +kernel
theorem d_Scene_begin_70 : decode prog_8_method_2_code 70 = .ok (.getfield 9, 3) := by decide +kernel
theorem d_Scene_begin_73 : decode prog_8_method_2_code 73 = .ok (.bipush 20, 2) := by decide +kernel
theorem d_Scene_begin_75 : decode prog_8_method_2_code 75 = .ok (.iload_n 1, 1) := by decide +kernel
theorem d_Scene_begin_76 : decode prog_8_method_2_code 76 = .ok (.iadd, 1) := by decide +kernel
theorem d_Scene_begin_77 : decode prog_8_method_2_code 77 = .ok (.iconst 0, 1) := by decide +kernel
theorem d_Scene_begin_78 : decode prog_8_method_2_code 78 = .ok (.iastore, 1) := by decide +kernel
theorem d_Scene_begin_79 : decode prog_8_method_2_code 79 = .ok (.iinc 1 1, 3) := by decide +kernel
theorem d_Scene_begin_82 : decode prog_8_method_2_code 82 = .ok (.goto (-80), 3) := by decide +kernel
theorem d_Scene_begin_85 : decode prog_8_method_2_code 85 = .ok (.aload_n 0, 1) := by decide +kernel
theorem d_Scene_begin_86 : decode prog_8_method_2_code 86 = .ok (.getfield 9, 3) := by decide +kernel
theorem d_Scene_begin_89 : decode prog_8_method_2_code 89 = .ok (.bipush 25, 2) := by decide +kernel
theorem d_Scene_begin_91 : decode prog_8_method_2_code 91 = .ok (.iconst 0, 1) := by decide +kernel
theorem d_Scene_begin_92 : decode prog_8_method_2_code 92 = .ok (.iastore, 1) := by decide +kernel
theorem d_Scene_begin_93 : decode prog_8_method_2_code 93 = .ok (.aload_n 0, 1) := by decide +kernel
theorem d_Scene_begin_94 : decode prog_8_method_2_code 94 = .ok (.getfield 21, 3) := by decide +kernel
theorem d_Scene_begin_97 : decode prog_8_method_2_code 97 = .ok (.getfield 33, 3) := by decide +kernel
theorem d_Scene_begin_100 : decode prog_8_method_2_code 100 = .ok (.iconst 0, 1) := by decide +kernel
theorem d_Scene_begin_101 : decode prog_8_method_2_code 101 = .ok (.aload_n 0, 1) := by decide +kernel
theorem d_Scene_begin_102 : decode prog_8_method_2_code 102 = .ok (.getfield 9, 3) := by decide +kernel
theorem d_Scene_begin_105 : decode prog_8_method_2_code 105 = .ok (.bipush 26, 2) := by decide +kernel
theorem d_Scene_begin_107 : decode prog_8_method_2_code 107 = .ok (.bipush 30, 2) := by decide +kernel
theorem d_Scene_begin_109 : decode prog_8_method_2_code 109 = .ok (.invokestatic 36, 3) := by decide +kernel
theorem d_Scene_begin_112 : decode prog_8_method_2_code 112 = .ok (.aload_n 0, 1) := by decide +kernel
theorem d_Scene_begin_113 : decode prog_8_method_2_code 113 = .ok (.invokevirtual 42, 3) := by decide +kernel
theorem d_Scene_begin_116 : decode prog_8_method_2_code 116 = .ok (.return_, 1) := by decide +kernel
noncomputable def Lc_Scene_begin_1 : Xp Bool := o2 (fun x y => decide (x < y)) (vI 1) (kI (ii 5))
noncomputable def Lb_Scene_begin_1 : Sm := sSeq (sAst 0 (gR 4 0 (vR 0)) (o2 (fun x y => x + y) (kI (ii 0)) (vI 1)) (aI 0 (gR 2 4 (gR 4 4 (vR 0))) (vI 1))) (sSeq (sAst 0 (gR 4 0 (vR 0)) (o2 (fun x y => x + y) (kI (ii 5)) (vI 1)) (aI 0 (gR 2 5 (gR 4 4 (vR 0))) (vI 1))) (sSeq (sAst 0 (gR 4 0 (vR 0)) (o2 (fun x y => x + y) (kI (ii 10)) (vI 1)) (aI 0 (gR 2 5 (gR 4 4 (vR 0))) (vI 1))) (sSeq (sAst 0 (gR 4 0 (vR 0)) (o2 (fun x y => x + y) (kI (ii 15)) (vI 1)) (kI (ii 0))) (sAst 0 (gR 4 0 (vR 0)) (o2 (fun x y => x + y) (kI (ii 20)) (vI 1)) (kI (ii 0))))))
noncomputable def Lu_Scene_begin_1 : Sm := sInc 1 (ii 1)
noncomputable def F_Scene_begin : Sm := sSeq (sBlk 1 (sSeq (sDecl (asV Value.int (kI (ii 0)))) (sWh (Lc_Scene_begin_1) (Lb_Scene_begin_1) Lu_Scene_begin_1))) (sSeq (sAst 0 (gR 4 0 (vR 0)) (kI (ii 25)) (kI (ii 0))) (sSeq (sCpy (gR 2 6 (gR 4 4 (vR 0))) (kI (ii 0)) (gR 4 0 (vR 0)) (kI (ii 26)) (kI (ii 30))) (sSeq (sCall (mV 4 D_Scene_choose) [asV Value.ref (vR 0)]) (sRetV))))
theorem mf_Scene_begin : Mf y_Scene_begin prog_8_method_2_code 2 none 0 := ⟨tw_858, tw_126, by decide +kernel⟩
noncomputable def D_Scene_begin : Dn := runS [1] F_Scene_begin
theorem ok_Scene_begin : MOK y_Scene_begin prog_8_method_2_code 2 none 3 0 0 D_Scene_begin := MOK.of (by decide) (by decide) (show SO Y_Scene_begin [(0, 1)] [(0, 1)] 0 117 (([], 0), ([], 0)) F_Scene_begin from
  (s_seq (sl1 := [(0, 1)]) (p1 := 85) (s_blk (sl1 := [(0, 1), (1, 1)]) (s_seq (sl1 := [(0, 1), (1, 1)]) (p1 := 2) (s_decl (p1 := 1) (e_iconst d_Scene_begin_0 (by decide)) (t_istore_n d_Scene_begin_1 rfl (by decide)) rfl) (s_for (pt := 7) (pu := 79) (pf := 85) (pg := 0) (c_icmp_geF (p1 := 3) (p2 := 4) (tg := 85) (e_iload_n (k0 := 1) d_Scene_begin_2 rfl rfl) (e_iconst d_Scene_begin_3 (by decide)) d_Scene_begin_4 rfl) (s_seq (sl1 := [(0, 1), (1, 1)]) (p1 := 24) (s_ast (p1 := 11) (p2 := 14) (p3 := 23) (e_gR (k0 := 0) (p1 := 8) cf_4 (e_aload_n (k0 := 0) d_Scene_begin_7 rfl rfl) (by decide) tw_316 d_Scene_begin_8) (e_iadd (p1 := 12) (p2 := 13) (e_iconst d_Scene_begin_11 (by decide)) (e_iload_n (k0 := 1) d_Scene_begin_12 rfl rfl) d_Scene_begin_13) (e_iald (p1 := 21) (p2 := 22) (e_gR (k0 := 4) (p1 := 18) cf_2 (e_gR (k0 := 4) (p1 := 15) cf_4 (e_aload_n (k0 := 0) d_Scene_begin_14 rfl rfl) (by decide) tw_333 d_Scene_begin_15) (by decide) tw_222 d_Scene_begin_18) (e_iload_n (k0 := 1) d_Scene_begin_21 rfl rfl) d_Scene_begin_22) (as_i d_Scene_begin_23)) (s_seq (sl1 := [(0, 1), (1, 1)]) (p1 := 41) (s_ast (p1 := 28) (p2 := 31) (p3 := 40) (e_gR (k0 := 0) (p1 := 25) cf_4 (e_aload_n (k0 := 0) d_Scene_begin_24 rfl rfl) (by decide) tw_316 d_Scene_begin_25) (e_iadd (p1 := 29) (p2 := 30) (e_iconst d_Scene_begin_28 (by decide)) (e_iload_n (k0 := 1) d_Scene_begin_29 rfl rfl) d_Scene_begin_30) (e_iald (p1 := 38) (p2 := 39) (e_gR (k0 := 5) (p1 := 35) cf_2 (e_gR (k0 := 4) (p1 := 32) cf_4 (e_aload_n (k0 := 0) d_Scene_begin_31 rfl rfl) (by decide) tw_333 d_Scene_begin_32) (by decide) tw_225 d_Scene_begin_35) (e_iload_n (k0 := 1) d_Scene_begin_38 rfl rfl) d_Scene_begin_39) (as_i d_Scene_begin_40)) (s_seq (sl1 := [(0, 1), (1, 1)]) (p1 := 59) (s_ast (p1 := 45) (p2 := 49) (p3 := 58) (e_gR (k0 := 0) (p1 := 42) cf_4 (e_aload_n (k0 := 0) d_Scene_begin_41 rfl rfl) (by decide) tw_316 d_Scene_begin_42) (e_iadd (p1 := 47) (p2 := 48) (e_bipush d_Scene_begin_45 (by decide)) (e_iload_n (k0 := 1) d_Scene_begin_47 rfl rfl) d_Scene_begin_48) (e_iald (p1 := 56) (p2 := 57) (e_gR (k0 := 5) (p1 := 53) cf_2 (e_gR (k0 := 4) (p1 := 50) cf_4 (e_aload_n (k0 := 0) d_Scene_begin_49 rfl rfl) (by decide) tw_333 d_Scene_begin_50) (by decide) tw_225 d_Scene_begin_53) (e_iload_n (k0 := 1) d_Scene_begin_56 rfl rfl) d_Scene_begin_57) (as_i d_Scene_begin_58)) (s_seq (sl1 := [(0, 1), (1, 1)]) (p1 := 69) (s_ast (p1 := 63) (p2 := 67) (p3 := 68) (e_gR (k0 := 0) (p1 := 60) cf_4 (e_aload_n (k0 := 0) d_Scene_begin_59 rfl rfl) (by decide) tw_316 d_Scene_begin_60) (e_iadd (p1 := 65) (p2 := 66) (e_bipush d_Scene_begin_63 (by decide)) (e_iload_n (k0 := 1) d_Scene_begin_65 rfl rfl) d_Scene_begin_66) (e_iconst d_Scene_begin_67 (by decide)) (as_i d_Scene_begin_68)) (s_ast (p1 := 73) (p2 := 77) (p3 := 78) (e_gR (k0 := 0) (p1 := 70) cf_4 (e_aload_n (k0 := 0) d_Scene_begin_69 rfl rfl) (by decide) tw_316 d_Scene_begin_70) (e_iadd (p1 := 75) (p2 := 76) (e_bipush d_Scene_begin_73 (by decide)) (e_iload_n (k0 := 1) d_Scene_begin_75 rfl rfl) d_Scene_begin_76) (e_iconst d_Scene_begin_77 (by decide)) (as_i d_Scene_begin_78)))))) (s_goto (p1 := 82) (s_inc (k0 := 1) d_Scene_begin_79 rfl rfl (Nat.le_of_ble_eq_true rfl) rfl) d_Scene_begin_82 rfl))) rfl) (s_seq (sl1 := [(0, 1)]) (p1 := 93) (s_ast (p1 := 89) (p2 := 91) (p3 := 92) (e_gR (k0 := 0) (p1 := 86) cf_4 (e_aload_n (k0 := 0) d_Scene_begin_85 rfl rfl) (by decide) tw_316 d_Scene_begin_86) (e_bipush d_Scene_begin_89 (by decide)) (e_iconst d_Scene_begin_91 (by decide)) (as_i d_Scene_begin_92)) (s_seq (sl1 := [(0, 1)]) (p1 := 112) (s_cpy (p1 := 100) (p2 := 101) (p3 := 105) (p4 := 107) (p5 := 109) (e_gR (k0 := 6) (p1 := 97) cf_2 (e_gR (k0 := 4) (p1 := 94) cf_4 (e_aload_n (k0 := 0) d_Scene_begin_93 rfl rfl) (by decide) tw_333 d_Scene_begin_94) (by decide) tw_228 d_Scene_begin_97) (e_iconst d_Scene_begin_100 (by decide)) (e_gR (k0 := 0) (p1 := 102) cf_4 (e_aload_n (k0 := 0) d_Scene_begin_101 rfl rfl) (by decide) tw_316 d_Scene_begin_102) (e_bipush d_Scene_begin_105 (by decide)) (e_bipush d_Scene_begin_107 (by decide)) ⟨tw_859, tw_854, tw_853, tw_141⟩ (by decide) d_Scene_begin_109) (s_seq (sl1 := [(0, 1)]) (p1 := 116) (s_call (p1 := 113) (a_cons (ι := Value.ref) (k0 := 1) (p1 := 113) (fun _ => rfl) (e_aload_n (k0 := 0) d_Scene_begin_112 rfl rfl) a_nil) (k_virt ok_Scene_choose mf_Scene_choose ⟨tw_861, tw_862⟩ rfl tw_860 d_Scene_begin_113 (by decide) (by decide) (by decide))) (s_retV rfl d_Scene_begin_116))))))
/-! BlinkerCross$Scene.seenCount(I)I -/
abbrev y_Scene_seenCount : MethodName := ⟨"BlinkerCross$Scene", "seenCount", "(I)I"⟩
abbrev Y_Scene_seenCount : Yt := (prog_8_method_7_code, 2, "BlinkerCross$Scene", 1, (some .int), "seenCount")
theorem d_Scene_seenCount_0 : decode prog_8_method_7_code 0 = .ok (.aload_n 0, 1) := by decide +kernel
theorem d_Scene_seenCount_1 : decode prog_8_method_7_code 1 = .ok (.getfield 9, 3) := by decide +kernel
theorem d_Scene_seenCount_4 : decode prog_8_method_7_code 4 = .ok (.iconst 5, 1) := by decide +kernel
theorem d_Scene_seenCount_5 : decode prog_8_method_7_code 5 = .ok (.iload_n 1, 1) := by decide +kernel
theorem d_Scene_seenCount_6 : decode prog_8_method_7_code 6 = .ok (.iadd, 1) := by decide +kernel
theorem d_Scene_seenCount_7 : decode prog_8_method_7_code 7 = .ok (.iaload, 1) := by decide +kernel
theorem d_Scene_seenCount_8 : decode prog_8_method_7_code 8 = .ok (.aload_n 0, 1) := by decide +kernel
theorem d_Scene_seenCount_9 : decode prog_8_method_7_code 9 = .ok (.getfield 21, 3) := by decide +kernel
theorem d_Scene_seenCount_12 : decode prog_8_method_7_code 12 = .ok (.getfield 56, 3) := by decide +kernel
theorem d_Scene_seenCount_15 : decode prog_8_method_7_code 15 = .ok (.invokestatic 59, 3) := by decide +kernel
theorem d_Scene_seenCount_18 : decode prog_8_method_7_code 18 = .ok (.ireturn, 1) := by decide +kernel
noncomputable def F_Scene_seenCount : Sm := sRet (asV Value.int (o2 (fun x y => if y < x then y else x) (aI 0 (gR 4 0 (vR 0)) (o2 (fun x y => x + y) (kI (ii 5)) (vI 1))) (gI 2 0 (gR 4 4 (vR 0)))))
theorem mf_Scene_seenCount : Mf y_Scene_seenCount prog_8_method_7_code 2 (some .int) 1 := ⟨tw_903, tw_126, by decide +kernel⟩
noncomputable def D_Scene_seenCount : Dn := runS [1, 1] F_Scene_seenCount
theorem ok_Scene_seenCount : MOK y_Scene_seenCount prog_8_method_7_code 2 (some .int) 1 0 0 D_Scene_seenCount := MOK.of (by decide) (by decide) (show SO Y_Scene_seenCount [(0, 1), (1, 1)] [(0, 1), (1, 1)] 0 19 (([], 0), ([], 0)) F_Scene_seenCount from
  (s_ret (p1 := 18) (e_min (p1 := 8) (p2 := 15) (e_iald (p1 := 4) (p2 := 7) (e_gR (k0 := 0) (p1 := 1) cf_4 (e_aload_n (k0 := 0) d_Scene_seenCount_0 rfl rfl) (by decide) tw_316 d_Scene_seenCount_1) (e_iadd (p1 := 5) (p2 := 6) (e_iconst d_Scene_seenCount_4 (by decide)) (e_iload_n (k0 := 1) d_Scene_seenCount_5 rfl rfl) d_Scene_seenCount_6) d_Scene_seenCount_7) (e_gI (k0 := 0) (p1 := 12) cf_2 (e_gR (k0 := 4) (p1 := 9) cf_4 (e_aload_n (k0 := 0) d_Scene_seenCount_8 rfl rfl) (by decide) tw_333 d_Scene_seenCount_9) (by decide) tw_200 d_Scene_seenCount_12) ⟨tw_904, tw_723, tw_139, tw_724⟩ d_Scene_seenCount_15 (by decide) (by decide)) rfl d_Scene_seenCount_18))
/-! BlinkerCross$Scene.seenBits(I)I -/
abbrev y_Scene_seenBits : MethodName := ⟨"BlinkerCross$Scene", "seenBits", "(I)I"⟩
abbrev Y_Scene_seenBits : Yt := (prog_8_method_14_code, 4, "BlinkerCross$Scene", 2, (some .int), "seenBits")
theorem d_Scene_seenBits_0 : decode prog_8_method_14_code 0 = .ok (.iconst 0, 1) := by decide +kernel
theorem d_Scene_seenBits_1 : decode prog_8_method_14_code 1 = .ok (.istore_n 2, 1) := by decide +kernel
theorem d_Scene_seenBits_2 : decode prog_8_method_14_code 2 = .ok (.iconst 0, 1) := by decide +kernel
theorem d_Scene_seenBits_3 : decode prog_8_method_14_code 3 = .ok (.istore_n 3, 1) := by decide +kernel
theorem d_Scene_seenBits_4 : decode prog_8_method_14_code 4 = .ok (.iload_n 3, 1) := by decide +kernel
theorem d_Scene_seenBits_5 : decode prog_8_method_14_code 5 = .ok (.aload_n 0, 1) := by decide +kernel
theorem d_Scene_seenBits_6 : decode prog_8_method_14_code 6 = .ok (.iload_n 1, 1) := by decide +kernel
theorem d_Scene_seenBits_7 : decode prog_8_method_14_code 7 = .ok (.invokevirtual 77, 3) := by decide +kernel
theorem d_Scene_seenBits_10 : decode prog_8_method_14_code 10 = .ok (.if_icmp .ge 20, 3) := by decide +kernel
theorem d_Scene_seenBits_13 : decode prog_8_method_14_code 13 = .ok (.iload_n 2, 1) := by decide +kernel
theorem d_Scene_seenBits_14 : decode prog_8_method_14_code 14 = .ok (.iconst 1, 1) := by decide +kernel
theorem d_Scene_seenBits_15 : decode prog_8_method_14_code 15 = .ok (.aload_n 0, 1) := by decide +kernel
theorem d_Scene_seenBits_16 : decode prog_8_method_14_code 16 = .ok (.iload_n 1, 1) := by decide +kernel
theorem d_Scene_seenBits_17 : decode prog_8_method_14_code 17 = .ok (.iload_n 3, 1) := by decide +kernel
theorem d_Scene_seenBits_18 : decode prog_8_method_14_code 18 = .ok (.invokevirtual 65, 3) := by decide +kernel
theorem d_Scene_seenBits_21 : decode prog_8_method_14_code 21 = .ok (.ishl, 1) := by decide +kernel
theorem d_Scene_seenBits_22 : decode prog_8_method_14_code 22 = .ok (.ior, 1) := by decide +kernel
theorem d_Scene_seenBits_23 : decode prog_8_method_14_code 23 = .ok (.istore_n 2, 1) := by decide +kernel
theorem d_Scene_seenBits_24 : decode prog_8_method_14_code 24 = .ok (.iinc 3 1, 3) := by decide +kernel
theorem d_Scene_seenBits_27 : decode prog_8_method_14_code 27 = .ok (.goto (-23), 3) := by decide +kernel
theorem d_Scene_seenBits_30 : decode prog_8_method_14_code 30 = .ok (.iload_n 2, 1) := by decide +kernel
theorem d_Scene_seenBits_31 : decode prog_8_method_14_code 31 = .ok (.ireturn, 1) := by decide +kernel
noncomputable def Lc_Scene_seenBits_1 : Xp Bool := o2 (fun x y => decide (x < y)) (vI 3) (cI (mV 4 D_Scene_seenCount) [asV Value.ref (vR 0), asV Value.int (vI 1)])
noncomputable def Lb_Scene_seenBits_1 : Sm := sSet 2 (asV Value.int (o2 (fun x y => x ||| y) (vI 2) (o2 (fun (x y : Int32) => x <<< (y &&& 31)) (kI (ii 1)) (cI (mV 4 D_Scene_roadAt) [asV Value.ref (vR 0), asV Value.int (vI 1), asV Value.int (vI 3)]))))
noncomputable def Lu_Scene_seenBits_1 : Sm := sInc 3 (ii 1)
noncomputable def F_Scene_seenBits : Sm := sSeq (sDecl (asV Value.int (kI (ii 0)))) (sSeq (sBlk 3 (sSeq (sDecl (asV Value.int (kI (ii 0)))) (sWh (Lc_Scene_seenBits_1) (Lb_Scene_seenBits_1) Lu_Scene_seenBits_1))) (sRet (asV Value.int (vI 2))))
theorem mf_Scene_seenBits : Mf y_Scene_seenBits prog_8_method_14_code 4 (some .int) 1 := ⟨tw_899, tw_126, by decide +kernel⟩
noncomputable def D_Scene_seenBits : Dn := runS [1, 1] F_Scene_seenBits
theorem ok_Scene_seenBits : MOK y_Scene_seenBits prog_8_method_14_code 4 (some .int) 2 0 0 D_Scene_seenBits := MOK.of (by decide) (by decide) (show SO Y_Scene_seenBits [(0, 1), (1, 1)] [(0, 1), (1, 1), (2, 1)] 0 32 (([], 0), ([], 0)) F_Scene_seenBits from
  (s_seq (sl1 := [(0, 1), (1, 1), (2, 1)]) (p1 := 2) (s_decl (p1 := 1) (e_iconst d_Scene_seenBits_0 (by decide)) (t_istore_n d_Scene_seenBits_1 rfl (by decide)) rfl) (s_seq (sl1 := [(0, 1), (1, 1), (2, 1)]) (p1 := 30) (s_blk (sl1 := [(0, 1), (1, 1), (2, 1), (3, 1)]) (s_seq (sl1 := [(0, 1), (1, 1), (2, 1), (3, 1)]) (p1 := 4) (s_decl (p1 := 3) (e_iconst d_Scene_seenBits_2 (by decide)) (t_istore_n d_Scene_seenBits_3 rfl (by decide)) rfl) (s_for (pt := 13) (pu := 24) (pf := 30) (pg := 0) (c_icmp_geF (p1 := 5) (p2 := 10) (tg := 30) (e_iload_n (k0 := 3) d_Scene_seenBits_4 rfl rfl) (e_cI (p1 := 7) (a_cons (ι := Value.ref) (k0 := 1) (p1 := 6) (fun _ => rfl) (e_aload_n (k0 := 0) d_Scene_seenBits_5 rfl rfl) (a_cons (ι := Value.int) (k0 := 1) (p1 := 7) (fun _ => rfl) (e_iload_n (k0 := 1) d_Scene_seenBits_6 rfl rfl) a_nil)) (k_virt ok_Scene_seenCount mf_Scene_seenCount ⟨tw_901, tw_902⟩ rfl tw_900 d_Scene_seenBits_7 (by decide) (by decide) (by decide))) d_Scene_seenBits_10 rfl) (s_set (k0 := 2) (p1 := 23) (e_ior (p1 := 14) (p2 := 22) (e_iload_n (k0 := 2) d_Scene_seenBits_13 rfl rfl) (e_ishl (p1 := 15) (p2 := 21) (e_iconst d_Scene_seenBits_14 (by decide)) (e_cI (p1 := 18) (a_cons (ι := Value.ref) (k0 := 1) (p1 := 16) (fun _ => rfl) (e_aload_n (k0 := 0) d_Scene_seenBits_15 rfl rfl) (a_cons (ι := Value.int) (k0 := 1) (p1 := 17) (fun _ => rfl) (e_iload_n (k0 := 1) d_Scene_seenBits_16 rfl rfl) (a_cons (ι := Value.int) (k0 := 1) (p1 := 18) (fun _ => rfl) (e_iload_n (k0 := 3) d_Scene_seenBits_17 rfl rfl) a_nil))) (k_virt ok_Scene_roadAt mf_Scene_roadAt ⟨tw_869, tw_870⟩ rfl tw_868 d_Scene_seenBits_18 (by decide) (by decide) (by decide))) d_Scene_seenBits_21) d_Scene_seenBits_22) (t_istore_n d_Scene_seenBits_23 rfl (by decide)) rfl rfl) (s_goto (p1 := 27) (s_inc (k0 := 3) d_Scene_seenBits_24 rfl rfl (Nat.le_of_ble_eq_true rfl) rfl) d_Scene_seenBits_27 rfl))) rfl) (s_ret (p1 := 31) (e_iload_n (k0 := 2) d_Scene_seenBits_30 rfl rfl) rfl d_Scene_seenBits_31))))
/-! BlinkerCross$Scene.seersOf(I)I -/
abbrev y_Scene_seersOf : MethodName := ⟨"BlinkerCross$Scene", "seersOf", "(I)I"⟩
abbrev Y_Scene_seersOf : Yt := (prog_8_method_16_code, 4, "BlinkerCross$Scene", 3, (some .int), "seersOf")
theorem d_Scene_seersOf_0 : decode prog_8_method_16_code 0 = .ok (.iconst 0, 1) := by decide +kernel
theorem d_Scene_seersOf_1 : decode prog_8_method_16_code 1 = .ok (.istore_n 2, 1) := by decide +kernel
theorem d_Scene_seersOf_2 : decode prog_8_method_16_code 2 = .ok (.iconst 0, 1) := by decide +kernel
theorem d_Scene_seersOf_3 : decode prog_8_method_16_code 3 = .ok (.istore_n 3, 1) := by decide +kernel
theorem d_Scene_seersOf_4 : decode prog_8_method_16_code 4 = .ok (.iload_n 3, 1) := by decide +kernel
theorem d_Scene_seersOf_5 : decode prog_8_method_16_code 5 = .ok (.aload_n 0, 1) := by decide +kernel
theorem d_Scene_seersOf_6 : decode prog_8_method_16_code 6 = .ok (.getfield 21, 3) := by decide +kernel
theorem d_Scene_seersOf_9 : decode prog_8_method_16_code 9 = .ok (.getfield 45, 3) := by decide +kernel
theorem d_Scene_seersOf_12 : decode prog_8_method_16_code 12 = .ok (.if_icmp .ge 28, 3) := by decide +kernel
theorem d_Scene_seersOf_15 : decode prog_8_method_16_code 15 = .ok (.aload_n 0, 1) := by decide +kernel
theorem d_Scene_seersOf_16 : decode prog_8_method_16_code 16 = .ok (.iload_n 3, 1) := by decide +kernel
theorem d_Scene_seersOf_17 : decode prog_8_method_16_code 17 = .ok (.invokevirtual 81, 3) := by decide +kernel
theorem d_Scene_seersOf_20 : decode prog_8_method_16_code 20 = .ok (.iload_n 1, 1) := by decide +kernel
theorem d_Scene_seersOf_21 : decode prog_8_method_16_code 21 = .ok (.ishr, 1) := by decide +kernel
theorem d_Scene_seersOf_22 : decode prog_8_method_16_code 22 = .ok (.iconst 1, 1) := by decide +kernel
theorem d_Scene_seersOf_23 : decode prog_8_method_16_code 23 = .ok (.iand, 1) := by decide +kernel
theorem d_Scene_seersOf_24 : decode prog_8_method_16_code 24 = .ok (.iconst 1, 1) := by decide +kernel
theorem d_Scene_seersOf_25 : decode prog_8_method_16_code 25 = .ok (.if_icmp .ne 9, 3) := by decide +kernel
theorem d_Scene_seersOf_28 : decode prog_8_method_16_code 28 = .ok (.iload_n 2, 1) := by decide +kernel
theorem d_Scene_seersOf_29 : decode prog_8_method_16_code 29 = .ok (.iconst 1, 1) := by decide +kernel
theorem d_Scene_seersOf_30 : decode prog_8_method_16_code 30 = .ok (.iload_n 3, 1) := by decide +kernel
theorem d_Scene_seersOf_31 : decode prog_8_method_16_code 31 = .ok (.ishl, 1) := by decide +kernel
theorem d_Scene_seersOf_32 : decode prog_8_method_16_code 32 = .ok (.ior, 1) := by decide +kernel
theorem d_Scene_seersOf_33 : decode prog_8_method_16_code 33 = .ok (.istore_n 2, 1) := by decide +kernel
theorem d_Scene_seersOf_34 : decode prog_8_method_16_code 34 = .ok (.iinc 3 1, 3) := by decide +kernel
theorem d_Scene_seersOf_37 : decode prog_8_method_16_code 37 = .ok (.goto (-33), 3) := by decide +kernel
theorem d_Scene_seersOf_40 : decode prog_8_method_16_code 40 = .ok (.iload_n 2, 1) := by decide +kernel
theorem d_Scene_seersOf_41 : decode prog_8_method_16_code 41 = .ok (.ireturn, 1) := by decide +kernel
noncomputable def Lc_Scene_seersOf_1 : Xp Bool := o2 (fun x y => decide (x < y)) (vI 3) (gI 2 1 (gR 4 4 (vR 0)))
noncomputable def Lb_Scene_seersOf_1 : Sm := sIf (o2 (fun x y => decide (x = y)) (o2 (fun x y => x &&& y) (o2 (fun (x y : Int32) => x >>> (y &&& 31)) (cI (mV 4 D_Scene_seenBits) [asV Value.ref (vR 0), asV Value.int (vI 3)]) (vI 1)) (kI (ii 1))) (kI (ii 1))) (sSet 2 (asV Value.int (o2 (fun x y => x ||| y) (vI 2) (o2 (fun (x y : Int32) => x <<< (y &&& 31)) (kI (ii 1)) (vI 3))))) (sSkip)
noncomputable def Lu_Scene_seersOf_1 : Sm := sInc 3 (ii 1)
noncomputable def F_Scene_seersOf : Sm := sSeq (sDecl (asV Value.int (kI (ii 0)))) (sSeq (sBlk 3 (sSeq (sDecl (asV Value.int (kI (ii 0)))) (sWh (Lc_Scene_seersOf_1) (Lb_Scene_seersOf_1) Lu_Scene_seersOf_1))) (sRet (asV Value.int (vI 2))))
theorem mf_Scene_seersOf : Mf y_Scene_seersOf prog_8_method_16_code 4 (some .int) 1 := ⟨tw_895, tw_126, by decide +kernel⟩
noncomputable def D_Scene_seersOf : Dn := runS [1, 1] F_Scene_seersOf
theorem ok_Scene_seersOf : MOK y_Scene_seersOf prog_8_method_16_code 4 (some .int) 3 0 0 D_Scene_seersOf := MOK.of (by decide) (by decide) (show SO Y_Scene_seersOf [(0, 1), (1, 1)] [(0, 1), (1, 1), (2, 1)] 0 42 (([], 0), ([], 0)) F_Scene_seersOf from
  (s_seq (sl1 := [(0, 1), (1, 1), (2, 1)]) (p1 := 2) (s_decl (p1 := 1) (e_iconst d_Scene_seersOf_0 (by decide)) (t_istore_n d_Scene_seersOf_1 rfl (by decide)) rfl) (s_seq (sl1 := [(0, 1), (1, 1), (2, 1)]) (p1 := 40) (s_blk (sl1 := [(0, 1), (1, 1), (2, 1), (3, 1)]) (s_seq (sl1 := [(0, 1), (1, 1), (2, 1), (3, 1)]) (p1 := 4) (s_decl (p1 := 3) (e_iconst d_Scene_seersOf_2 (by decide)) (t_istore_n d_Scene_seersOf_3 rfl (by decide)) rfl) (s_for (pt := 15) (pu := 34) (pf := 40) (pg := 0) (c_icmp_geF (p1 := 5) (p2 := 12) (tg := 40) (e_iload_n (k0 := 3) d_Scene_seersOf_4 rfl rfl) (e_gI (k0 := 1) (p1 := 9) cf_2 (e_gR (k0 := 4) (p1 := 6) cf_4 (e_aload_n (k0 := 0) d_Scene_seersOf_5 rfl rfl) (by decide) tw_333 d_Scene_seersOf_6) (by decide) tw_210 d_Scene_seersOf_9) d_Scene_seersOf_12 rfl) (s_if (pt := 28) (pf := 34) (c_icmp_neF (p1 := 24) (p2 := 25) (tg := 34) (e_iand (p1 := 22) (p2 := 23) (e_ishr (p1 := 20) (p2 := 21) (e_cI (p1 := 17) (a_cons (ι := Value.ref) (k0 := 1) (p1 := 16) (fun _ => rfl) (e_aload_n (k0 := 0) d_Scene_seersOf_15 rfl rfl) (a_cons (ι := Value.int) (k0 := 1) (p1 := 17) (fun _ => rfl) (e_iload_n (k0 := 3) d_Scene_seersOf_16 rfl rfl) a_nil)) (k_virt ok_Scene_seenBits mf_Scene_seenBits ⟨tw_897, tw_898⟩ rfl tw_896 d_Scene_seersOf_17 (by decide) (by decide) (by decide))) (e_iload_n (k0 := 1) d_Scene_seersOf_20 rfl rfl) d_Scene_seersOf_21) (e_iconst d_Scene_seersOf_22 (by decide)) d_Scene_seersOf_23) (e_iconst d_Scene_seersOf_24 (by decide)) d_Scene_seersOf_25 rfl) (s_set (k0 := 2) (p1 := 33) (e_ior (p1 := 29) (p2 := 32) (e_iload_n (k0 := 2) d_Scene_seersOf_28 rfl rfl) (e_ishl (p1 := 30) (p2 := 31) (e_iconst d_Scene_seersOf_29 (by decide)) (e_iload_n (k0 := 3) d_Scene_seersOf_30 rfl rfl) d_Scene_seersOf_31) d_Scene_seersOf_32) (t_istore_n d_Scene_seersOf_33 rfl (by decide)) rfl rfl) s_skip) (s_goto (p1 := 37) (s_inc (k0 := 3) d_Scene_seersOf_34 rfl rfl (Nat.le_of_ble_eq_true rfl) rfl) d_Scene_seersOf_37 rfl))) rfl) (s_ret (p1 := 41) (e_iload_n (k0 := 2) d_Scene_seersOf_40 rfl rfl) rfl d_Scene_seersOf_41))))
/-! BlinkerCross$Scene.wantsFor(I)I -/
abbrev y_Scene_wantsFor : MethodName := ⟨"BlinkerCross$Scene", "wantsFor", "(I)I"⟩
abbrev Y_Scene_wantsFor : Yt := (prog_8_method_18_code, 4, "BlinkerCross$Scene", 1, (some .int), "wantsFor")
theorem d_Scene_wantsFor_0 : decode prog_8_method_18_code 0 = .ok (.iconst 0, 1) := by decide +kernel
theorem d_Scene_wantsFor_1 : decode prog_8_method_18_code 1 = .ok (.istore_n 2, 1) := by decide +kernel
theorem d_Scene_wantsFor_2 : decode prog_8_method_18_code 2 = .ok (.iconst 0, 1) := by decide +kernel
theorem d_Scene_wantsFor_3 : decode prog_8_method_18_code 3 = .ok (.istore_n 3, 1) := by decide +kernel
theorem d_Scene_wantsFor_4 : decode prog_8_method_18_code 4 = .ok (.iload_n 3, 1) := by decide +kernel
theorem d_Scene_wantsFor_5 : decode prog_8_method_18_code 5 = .ok (.aload_n 0, 1) := by decide +kernel
theorem d_Scene_wantsFor_6 : decode prog_8_method_18_code 6 = .ok (.getfield 21, 3) := by decide +kernel
theorem d_Scene_wantsFor_9 : decode prog_8_method_18_code 9 = .ok (.getfield 45, 3) := by decide +kernel
theorem d_Scene_wantsFor_12 : decode prog_8_method_18_code 12 = .ok (.if_icmp .ge 18, 3) := by decide +kernel
theorem d_Scene_wantsFor_15 : decode prog_8_method_18_code 15 = .ok (.iload_n 2, 1) := by decide +kernel
theorem d_Scene_wantsFor_16 : decode prog_8_method_18_code 16 = .ok (.aload_n 0, 1) := by decide +kernel
theorem d_Scene_wantsFor_17 : decode prog_8_method_18_code 17 = .ok (.iload_n 3, 1) := by decide +kernel
theorem d_Scene_wantsFor_18 : decode prog_8_method_18_code 18 = .ok (.iload_n 1, 1) := by decide +kernel
theorem d_Scene_wantsFor_19 : decode prog_8_method_18_code 19 = .ok (.invokevirtual 68, 3) := by decide +kernel
theorem d_Scene_wantsFor_22 : decode prog_8_method_18_code 22 = .ok (.iadd, 1) := by decide +kernel
theorem d_Scene_wantsFor_23 : decode prog_8_method_18_code 23 = .ok (.istore_n 2, 1) := by decide +kernel
theorem d_Scene_wantsFor_24 : decode prog_8_method_18_code 24 = .ok (.iinc 3 1, 3) := by decide +kernel
theorem d_Scene_wantsFor_27 : decode prog_8_method_18_code 27 = .ok (.goto (-23), 3) := by decide +kernel
theorem d_Scene_wantsFor_30 : decode prog_8_method_18_code 30 = .ok (.iload_n 2, 1) := by decide +kernel
theorem d_Scene_wantsFor_31 : decode prog_8_method_18_code 31 = .ok (.ireturn, 1) := by decide +kernel
noncomputable def Lc_Scene_wantsFor_1 : Xp Bool := o2 (fun x y => decide (x < y)) (vI 3) (gI 2 1 (gR 4 4 (vR 0)))
noncomputable def Lb_Scene_wantsFor_1 : Sm := sSet 2 (asV Value.int (o2 (fun x y => x + y) (vI 2) (cI (mV 4 D_Scene_wantOf) [asV Value.ref (vR 0), asV Value.int (vI 3), asV Value.int (vI 1)])))
noncomputable def Lu_Scene_wantsFor_1 : Sm := sInc 3 (ii 1)
noncomputable def F_Scene_wantsFor : Sm := sSeq (sDecl (asV Value.int (kI (ii 0)))) (sSeq (sBlk 3 (sSeq (sDecl (asV Value.int (kI (ii 0)))) (sWh (Lc_Scene_wantsFor_1) (Lb_Scene_wantsFor_1) Lu_Scene_wantsFor_1))) (sRet (asV Value.int (vI 2))))
theorem mf_Scene_wantsFor : Mf y_Scene_wantsFor prog_8_method_18_code 4 (some .int) 1 := ⟨tw_908, tw_126, by decide +kernel⟩
noncomputable def D_Scene_wantsFor : Dn := runS [1, 1] F_Scene_wantsFor
theorem ok_Scene_wantsFor : MOK y_Scene_wantsFor prog_8_method_18_code 4 (some .int) 1 0 0 D_Scene_wantsFor := MOK.of (by decide) (by decide) (show SO Y_Scene_wantsFor [(0, 1), (1, 1)] [(0, 1), (1, 1), (2, 1)] 0 32 (([], 0), ([], 0)) F_Scene_wantsFor from
  (s_seq (sl1 := [(0, 1), (1, 1), (2, 1)]) (p1 := 2) (s_decl (p1 := 1) (e_iconst d_Scene_wantsFor_0 (by decide)) (t_istore_n d_Scene_wantsFor_1 rfl (by decide)) rfl) (s_seq (sl1 := [(0, 1), (1, 1), (2, 1)]) (p1 := 30) (s_blk (sl1 := [(0, 1), (1, 1), (2, 1), (3, 1)]) (s_seq (sl1 := [(0, 1), (1, 1), (2, 1), (3, 1)]) (p1 := 4) (s_decl (p1 := 3) (e_iconst d_Scene_wantsFor_2 (by decide)) (t_istore_n d_Scene_wantsFor_3 rfl (by decide)) rfl) (s_for (pt := 15) (pu := 24) (pf := 30) (pg := 0) (c_icmp_geF (p1 := 5) (p2 := 12) (tg := 30) (e_iload_n (k0 := 3) d_Scene_wantsFor_4 rfl rfl) (e_gI (k0 := 1) (p1 := 9) cf_2 (e_gR (k0 := 4) (p1 := 6) cf_4 (e_aload_n (k0 := 0) d_Scene_wantsFor_5 rfl rfl) (by decide) tw_333 d_Scene_wantsFor_6) (by decide) tw_210 d_Scene_wantsFor_9) d_Scene_wantsFor_12 rfl) (s_set (k0 := 2) (p1 := 23) (e_iadd (p1 := 16) (p2 := 22) (e_iload_n (k0 := 2) d_Scene_wantsFor_15 rfl rfl) (e_cI (p1 := 19) (a_cons (ι := Value.ref) (k0 := 1) (p1 := 17) (fun _ => rfl) (e_aload_n (k0 := 0) d_Scene_wantsFor_16 rfl rfl) (a_cons (ι := Value.int) (k0 := 1) (p1 := 18) (fun _ => rfl) (e_iload_n (k0 := 3) d_Scene_wantsFor_17 rfl rfl) (a_cons (ι := Value.int) (k0 := 1) (p1 := 19) (fun _ => rfl) (e_iload_n (k0 := 1) d_Scene_wantsFor_18 rfl rfl) a_nil))) (k_virt ok_Scene_wantOf mf_Scene_wantOf ⟨tw_873, tw_874⟩ rfl tw_872 d_Scene_wantsFor_19 (by decide) (by decide) (by decide))) d_Scene_wantsFor_22) (t_istore_n d_Scene_wantsFor_23 rfl (by decide)) rfl rfl) (s_goto (p1 := 27) (s_inc (k0 := 3) d_Scene_wantsFor_24 rfl rfl (Nat.le_of_ble_eq_true rfl) rfl) d_Scene_wantsFor_27 rfl))) rfl) (s_ret (p1 := 31) (e_iload_n (k0 := 2) d_Scene_wantsFor_30 rfl rfl) rfl d_Scene_wantsFor_31))))
/-! BlinkerCross$Scene.nextWant(III)I -/
abbrev y_Scene_nextWant : MethodName := ⟨"BlinkerCross$Scene", "nextWant", "(III)I"⟩
abbrev Y_Scene_nextWant : Yt := (prog_8_method_10_code, 7, "BlinkerCross$Scene", 1, (some .int), "nextWant")
theorem d_Scene_nextWant_0 : decode prog_8_method_10_code 0 = .ok (.iconst 0, 1) := by decide +kernel
theorem d_Scene_nextWant_1 : decode prog_8_method_10_code 1 = .ok (.istore 4, 2) := by decide +kernel
theorem d_Scene_nextWant_3 : decode prog_8_method_10_code 3 = .ok (.iconst 0, 1) := by decide +kernel
theorem d_Scene_nextWant_4 : decode prog_8_method_10_code 4 = .ok (.istore 5, 2) := by decide +kernel
theorem d_Scene_nextWant_6 : decode prog_8_method_10_code 6 = .ok (.iload 5, 2) := by decide +kernel
theorem d_Scene_nextWant_8 : decode prog_8_method_10_code 8 = .ok (.iload_n 2, 1) := by decide +kernel
theorem d_Scene_nextWant_9 : decode prog_8_method_10_code 9 = .ok (.if_icmp .ge 50, 3) := by decide +kernel
theorem d_Scene_nextWant_12 : decode prog_8_method_10_code 12 = .ok (.iload 5, 2) := by decide +kernel
theorem d_Scene_nextWant_14 : decode prog_8_method_10_code 14 = .ok (.aload_n 0, 1) := by decide +kernel
theorem d_Scene_nextWant_15 : decode prog_8_method_10_code 15 = .ok (.getfield 21, 3) := by decide +kernel
theorem d_Scene_nextWant_18 : decode prog_8_method_10_code 18 = .ok (.getfield 56, 3) := by decide +kernel
theorem d_Scene_nextWant_21 : decode prog_8_method_10_code 21 = .ok (.if_icmp .ge 38, 3) := by decide +kernel
theorem d_Scene_nextWant_24 : decode prog_8_method_10_code 24 = .ok (.aload_n 0, 1) := by decide +kernel
theorem d_Scene_nextWant_25 : decode prog_8_method_10_code 25 = .ok (.iload_n 1, 1) := by decide +kernel
theorem d_Scene_nextWant_26 : decode prog_8_method_10_code 26 = .ok (.iload 5, 2) := by decide +kernel
theorem d_Scene_nextWant_28 : decode prog_8_method_10_code 28 = .ok (.invokevirtual 65, 3) := by decide +kernel
theorem d_Scene_nextWant_31 : decode prog_8_method_10_code 31 = .ok (.istore 6, 2) := by decide +kernel
theorem d_Scene_nextWant_33 : decode prog_8_method_10_code 33 = .ok (.iload 6, 2) := by decide +kernel
theorem d_Scene_nextWant_35 : decode prog_8_method_10_code 35 = .ok (.iload_n 3, 1) := by decide +kernel
theorem d_Scene_nextWant_36 : decode prog_8_method_10_code 36 = .ok (.if_icmp .eq 17, 3) := by decide +kernel
theorem d_Scene_nextWant_39 : decode prog_8_method_10_code 39 = .ok (.iload 4, 2) := by decide +kernel
theorem d_Scene_nextWant_41 : decode prog_8_method_10_code 41 = .ok (.aload_n 0, 1) := by decide +kernel
theorem d_Scene_nextWant_42 : decode prog_8_method_10_code 42 = .ok (.iload_n 1, 1) := by decide +kernel
theorem d_Scene_nextWant_43 : decode prog_8_method_10_code 43 = .ok (.iload 6, 2) := by decide +kernel
theorem d_Scene_nextWant_45 : decode prog_8_method_10_code 45 = .ok (.invokevirtual 68, 3) := by decide +kernel
theorem d_Scene_nextWant_48 : decode prog_8_method_10_code 48 = .ok (.invokestatic 71, 3) := by decide +kernel
theorem d_Scene_nextWant_51 : decode prog_8_method_10_code 51 = .ok (.istore 4, 2) := by decide +kernel
theorem d_Scene_nextWant_53 : decode prog_8_method_10_code 53 = .ok (.iinc 5 1, 3) := by decide +kernel
theorem d_Scene_nextWant_56 : decode prog_8_method_10_code 56 = .ok (.goto (-50), 3) := by decide +kernel
theorem d_Scene_nextWant_59 : decode prog_8_method_10_code 59 = .ok (.iload 4, 2) := by decide +kernel
theorem d_Scene_nextWant_61 : decode prog_8_method_10_code 61 = .ok (.ireturn, 1) := by decide +kernel
noncomputable def Lc_Scene_nextWant_1 : Xp Bool := cAnd (o2 (fun x y => decide (x < y)) (vI 5) (vI 2)) (o2 (fun x y => decide (x < y)) (vI 5) (gI 2 0 (gR 4 4 (vR 0))))
noncomputable def Lb_Scene_nextWant_1 : Sm := sBlk 6 (sSeq (sDecl (asV Value.int (cI (mV 4 D_Scene_roadAt) [asV Value.ref (vR 0), asV Value.int (vI 1), asV Value.int (vI 5)]))) (sIf (o2 (fun x y => decide (x ≠ y)) (vI 6) (vI 3)) (sSet 4 (asV Value.int (o2 (fun x y => if x < y then y else x) (vI 4) (cI (mV 4 D_Scene_wantOf) [asV Value.ref (vR 0), asV Value.int (vI 1), asV Value.int (vI 6)])))) (sSkip)))
noncomputable def Lu_Scene_nextWant_1 : Sm := sInc 5 (ii 1)
noncomputable def F_Scene_nextWant : Sm := sSeq (sDecl (asV Value.int (kI (ii 0)))) (sSeq (sBlk 5 (sSeq (sDecl (asV Value.int (kI (ii 0)))) (sWh (Lc_Scene_nextWant_1) (Lb_Scene_nextWant_1) Lu_Scene_nextWant_1))) (sRet (asV Value.int (vI 4))))
theorem mf_Scene_nextWant : Mf y_Scene_nextWant prog_8_method_10_code 7 (some .int) 3 := ⟨tw_930, tw_126, by decide +kernel⟩
noncomputable def D_Scene_nextWant : Dn := runS [1, 1, 1, 1] F_Scene_nextWant
theorem ok_Scene_nextWant : MOK y_Scene_nextWant prog_8_method_10_code 7 (some .int) 1 0 0 D_Scene_nextWant := MOK.of (by decide) (by decide) (show SO Y_Scene_nextWant [(0, 1), (1, 1), (2, 1), (3, 1)] [(0, 1), (1, 1), (2, 1), (3, 1), (4, 1)] 0 62 (([], 0), ([], 0)) F_Scene_nextWant from
  (s_seq (sl1 := [(0, 1), (1, 1), (2, 1), (3, 1), (4, 1)]) (p1 := 3) (s_decl (p1 := 1) (e_iconst d_Scene_nextWant_0 (by decide)) (t_istore d_Scene_nextWant_1 (by decide)) rfl) (s_seq (sl1 := [(0, 1), (1, 1), (2, 1), (3, 1), (4, 1)]) (p1 := 59) (s_blk (sl1 := [(0, 1), (1, 1), (2, 1), (3, 1), (4, 1), (5, 1)]) (s_seq (sl1 := [(0, 1), (1, 1), (2, 1), (3, 1), (4, 1), (5, 1)]) (p1 := 6) (s_decl (p1 := 4) (e_iconst d_Scene_nextWant_3 (by decide)) (t_istore d_Scene_nextWant_4 (by decide)) rfl) (s_for (pt := 24) (pu := 53) (pf := 59) (pg := 0) (c_and (p1 := 12) (c_icmp_geF (p1 := 8) (p2 := 9) (tg := 59) (e_iload (k0 := 5) d_Scene_nextWant_6 rfl) (e_iload_n (k0 := 2) d_Scene_nextWant_8 rfl rfl) d_Scene_nextWant_9 rfl) (c_icmp_geF (p1 := 14) (p2 := 21) (tg := 59) (e_iload (k0 := 5) d_Scene_nextWant_12 rfl) (e_gI (k0 := 0) (p1 := 18) cf_2 (e_gR (k0 := 4) (p1 := 15) cf_4 (e_aload_n (k0 := 0) d_Scene_nextWant_14 rfl rfl) (by decide) tw_333 d_Scene_nextWant_15) (by decide) tw_200 d_Scene_nextWant_18) d_Scene_nextWant_21 rfl)) (s_blk (sl1 := [(0, 1), (1, 1), (2, 1), (3, 1), (4, 1), (5, 1), (6, 1)]) (s_seq (sl1 := [(0, 1), (1, 1), (2, 1), (3, 1), (4, 1), (5, 1), (6, 1)]) (p1 := 33) (s_decl (p1 := 31) (e_cI (p1 := 28) (a_cons (ι := Value.ref) (k0 := 1) (p1 := 25) (fun _ => rfl) (e_aload_n (k0 := 0) d_Scene_nextWant_24 rfl rfl) (a_cons (ι := Value.int) (k0 := 1) (p1 := 26) (fun _ => rfl) (e_iload_n (k0 := 1) d_Scene_nextWant_25 rfl rfl) (a_cons (ι := Value.int) (k0 := 1) (p1 := 28) (fun _ => rfl) (e_iload (k0 := 5) d_Scene_nextWant_26 rfl) a_nil))) (k_virt ok_Scene_roadAt mf_Scene_roadAt ⟨tw_869, tw_870⟩ rfl tw_868 d_Scene_nextWant_28 (by decide) (by decide) (by decide))) (t_istore d_Scene_nextWant_31 (by decide)) rfl) (s_if (pt := 39) (pf := 53) (c_icmp_eqF (p1 := 35) (p2 := 36) (tg := 53) (e_iload (k0 := 6) d_Scene_nextWant_33 rfl) (e_iload_n (k0 := 3) d_Scene_nextWant_35 rfl rfl) d_Scene_nextWant_36 rfl) (s_set (k0 := 4) (p1 := 51) (e_max (p1 := 41) (p2 := 48) (e_iload (k0 := 4) d_Scene_nextWant_39 rfl) (e_cI (p1 := 45) (a_cons (ι := Value.ref) (k0 := 1) (p1 := 42) (fun _ => rfl) (e_aload_n (k0 := 0) d_Scene_nextWant_41 rfl rfl) (a_cons (ι := Value.int) (k0 := 1) (p1 := 43) (fun _ => rfl) (e_iload_n (k0 := 1) d_Scene_nextWant_42 rfl rfl) (a_cons (ι := Value.int) (k0 := 1) (p1 := 45) (fun _ => rfl) (e_iload (k0 := 6) d_Scene_nextWant_43 rfl) a_nil))) (k_virt ok_Scene_wantOf mf_Scene_wantOf ⟨tw_873, tw_874⟩ rfl tw_872 d_Scene_nextWant_45 (by decide) (by decide) (by decide))) ⟨tw_931, tw_720, tw_139, tw_721⟩ d_Scene_nextWant_48 (by decide) (by decide)) (t_istore d_Scene_nextWant_51 (by decide)) rfl rfl) s_skip)) rfl) (s_goto (p1 := 56) (s_inc (k0 := 5) d_Scene_nextWant_53 rfl rfl (Nat.le_of_ble_eq_true rfl) rfl) d_Scene_nextWant_56 rfl))) rfl) (s_ret (p1 := 61) (e_iload (k0 := 4) d_Scene_nextWant_59 rfl) rfl d_Scene_nextWant_61))))
/-! BlinkerCross$Scene.missedBy(II)I -/
abbrev y_Scene_missedBy : MethodName := ⟨"BlinkerCross$Scene", "missedBy", "(II)I"⟩
abbrev Y_Scene_missedBy : Yt := (prog_8_method_11_code, 5, "BlinkerCross$Scene", 1, (some .int), "missedBy")
theorem d_Scene_missedBy_0 : decode prog_8_method_11_code 0 = .ok (.iconst 0, 1) := by decide +kernel
theorem d_Scene_missedBy_1 : decode prog_8_method_11_code 1 = .ok (.istore_n 3, 1) := by decide +kernel
theorem d_Scene_missedBy_2 : decode prog_8_method_11_code 2 = .ok (.iconst 0, 1) := by decide +kernel
theorem d_Scene_missedBy_3 : decode prog_8_method_11_code 3 = .ok (.istore 4, 2) := by decide +kernel
theorem d_Scene_missedBy_5 : decode prog_8_method_11_code 5 = .ok (.iload 4, 2) := by decide +kernel
theorem d_Scene_missedBy_7 : decode prog_8_method_11_code 7 = .ok (.aload_n 0, 1) := by decide +kernel
theorem d_Scene_missedBy_8 : decode prog_8_method_11_code 8 = .ok (.getfield 21, 3) := by decide +kernel
theorem d_Scene_missedBy_11 : decode prog_8_method_11_code 11 = .ok (.getfield 56, 3) := by decide +kernel
theorem d_Scene_missedBy_14 : decode prog_8_method_11_code 14 = .ok (.if_icmp .ge 21, 3) := by decide +kernel
theorem d_Scene_missedBy_17 : decode prog_8_method_11_code 17 = .ok (.iload_n 3, 1) := by decide +kernel
theorem d_Scene_missedBy_18 : decode prog_8_method_11_code 18 = .ok (.aload_n 0, 1) := by decide +kernel
theorem d_Scene_missedBy_19 : decode prog_8_method_11_code 19 = .ok (.iload_n 1, 1) := by decide +kernel
theorem d_Scene_missedBy_20 : decode prog_8_method_11_code 20 = .ok (.iload 4, 2) := by decide +kernel
theorem d_Scene_missedBy_22 : decode prog_8_method_11_code 22 = .ok (.invokevirtual 68, 3) := by decide +kernel
theorem d_Scene_missedBy_25 : decode prog_8_method_11_code 25 = .ok (.invokestatic 71, 3) := by decide +kernel
theorem d_Scene_missedBy_28 : decode prog_8_method_11_code 28 = .ok (.istore_n 3, 1) := by decide +kernel
theorem d_Scene_missedBy_29 : decode prog_8_method_11_code 29 = .ok (.iinc 4 1, 3) := by decide +kernel
theorem d_Scene_missedBy_32 : decode prog_8_method_11_code 32 = .ok (.goto (-27), 3) := by decide +kernel
theorem d_Scene_missedBy_35 : decode prog_8_method_11_code 35 = .ok (.iload_n 2, 1) := by decide +kernel
theorem d_Scene_missedBy_36 : decode prog_8_method_11_code 36 = .ok (.ifCond .ge 7, 3) := by decide +kernel
theorem d_Scene_missedBy_39 : decode prog_8_method_11_code 39 = .ok (.iload_n 3, 1) := by decide +kernel
theorem d_Scene_missedBy_40 : decode prog_8_method_11_code 40 = .ok (.goto 11, 3) := by decide +kernel
theorem d_Scene_missedBy_43 : decode prog_8_method_11_code 43 = .ok (.iload_n 3, 1) := by decide +kernel
theorem d_Scene_missedBy_44 : decode prog_8_method_11_code 44 = .ok (.aload_n 0, 1) := by decide +kernel
theorem d_Scene_missedBy_45 : decode prog_8_method_11_code 45 = .ok (.iload_n 1, 1) := by decide +kernel
theorem d_Scene_missedBy_46 : decode prog_8_method_11_code 46 = .ok (.iload_n 2, 1) := by decide +kernel
theorem d_Scene_missedBy_47 : decode prog_8_method_11_code 47 = .ok (.invokevirtual 68, 3) := by decide +kernel
theorem d_Scene_missedBy_50 : decode prog_8_method_11_code 50 = .ok (.isub, 1) := by decide +kernel
theorem d_Scene_missedBy_51 : decode prog_8_method_11_code 51 = .ok (.ireturn, 1) := by decide +kernel
noncomputable def Lc_Scene_missedBy_1 : Xp Bool := o2 (fun x y => decide (x < y)) (vI 4) (gI 2 0 (gR 4 4 (vR 0)))
noncomputable def Lb_Scene_missedBy_1 : Sm := sSet 3 (asV Value.int (o2 (fun x y => if x < y then y else x) (vI 3) (cI (mV 4 D_Scene_wantOf) [asV Value.ref (vR 0), asV Value.int (vI 1), asV Value.int (vI 4)])))
noncomputable def Lu_Scene_missedBy_1 : Sm := sInc 4 (ii 1)
noncomputable def F_Scene_missedBy : Sm := sSeq (sDecl (asV Value.int (kI (ii 0)))) (sSeq (sBlk 4 (sSeq (sDecl (asV Value.int (kI (ii 0)))) (sWh (Lc_Scene_missedBy_1) (Lb_Scene_missedBy_1) Lu_Scene_missedBy_1))) (sRet (asV Value.int (iX (o1 (fun x => decide (x < 0)) (vI 2)) (vI 3) (o2 (fun x y => x - y) (vI 3) (cI (mV 4 D_Scene_wantOf) [asV Value.ref (vR 0), asV Value.int (vI 1), asV Value.int (vI 2)]))))))
theorem mf_Scene_missedBy : Mf y_Scene_missedBy prog_8_method_11_code 5 (some .int) 2 := ⟨tw_951, tw_126, by decide +kernel⟩
noncomputable def D_Scene_missedBy : Dn := runS [1, 1, 1] F_Scene_missedBy
theorem ok_Scene_missedBy : MOK y_Scene_missedBy prog_8_method_11_code 5 (some .int) 1 0 0 D_Scene_missedBy := MOK.of (by decide) (by decide) (show SO Y_Scene_missedBy [(0, 1), (1, 1), (2, 1)] [(0, 1), (1, 1), (2, 1), (3, 1)] 0 52 (([], 0), ([], 0)) F_Scene_missedBy from
  (s_seq (sl1 := [(0, 1), (1, 1), (2, 1), (3, 1)]) (p1 := 2) (s_decl (p1 := 1) (e_iconst d_Scene_missedBy_0 (by decide)) (t_istore_n d_Scene_missedBy_1 rfl (by decide)) rfl) (s_seq (sl1 := [(0, 1), (1, 1), (2, 1), (3, 1)]) (p1 := 35) (s_blk (sl1 := [(0, 1), (1, 1), (2, 1), (3, 1), (4, 1)]) (s_seq (sl1 := [(0, 1), (1, 1), (2, 1), (3, 1), (4, 1)]) (p1 := 5) (s_decl (p1 := 3) (e_iconst d_Scene_missedBy_2 (by decide)) (t_istore d_Scene_missedBy_3 (by decide)) rfl) (s_for (pt := 17) (pu := 29) (pf := 35) (pg := 0) (c_icmp_geF (p1 := 7) (p2 := 14) (tg := 35) (e_iload (k0 := 4) d_Scene_missedBy_5 rfl) (e_gI (k0 := 0) (p1 := 11) cf_2 (e_gR (k0 := 4) (p1 := 8) cf_4 (e_aload_n (k0 := 0) d_Scene_missedBy_7 rfl rfl) (by decide) tw_333 d_Scene_missedBy_8) (by decide) tw_200 d_Scene_missedBy_11) d_Scene_missedBy_14 rfl) (s_set (k0 := 3) (p1 := 28) (e_max (p1 := 18) (p2 := 25) (e_iload_n (k0 := 3) d_Scene_missedBy_17 rfl rfl) (e_cI (p1 := 22) (a_cons (ι := Value.ref) (k0 := 1) (p1 := 19) (fun _ => rfl) (e_aload_n (k0 := 0) d_Scene_missedBy_18 rfl rfl) (a_cons (ι := Value.int) (k0 := 1) (p1 := 20) (fun _ => rfl) (e_iload_n (k0 := 1) d_Scene_missedBy_19 rfl rfl) (a_cons (ι := Value.int) (k0 := 1) (p1 := 22) (fun _ => rfl) (e_iload (k0 := 4) d_Scene_missedBy_20 rfl) a_nil))) (k_virt ok_Scene_wantOf mf_Scene_wantOf ⟨tw_873, tw_874⟩ rfl tw_872 d_Scene_missedBy_22 (by decide) (by decide) (by decide))) ⟨tw_931, tw_720, tw_139, tw_721⟩ d_Scene_missedBy_25 (by decide) (by decide)) (t_istore_n d_Scene_missedBy_28 rfl (by decide)) rfl rfl) (s_goto (p1 := 32) (s_inc (k0 := 4) d_Scene_missedBy_29 rfl rfl (Nat.le_of_ble_eq_true rfl) rfl) d_Scene_missedBy_32 rfl))) rfl) (s_ret (p1 := 51) (e_ite (pt := 39) (p1 := 40) (pf := 43) (c_if_geF (p1 := 36) (tg := 43) (e_iload_n (k0 := 2) d_Scene_missedBy_35 rfl rfl) d_Scene_missedBy_36 rfl) (e_iload_n (k0 := 3) d_Scene_missedBy_39 rfl rfl) d_Scene_missedBy_40 rfl (e_isub (p1 := 44) (p2 := 50) (e_iload_n (k0 := 3) d_Scene_missedBy_43 rfl rfl) (e_cI (p1 := 47) (a_cons (ι := Value.ref) (k0 := 1) (p1 := 45) (fun _ => rfl) (e_aload_n (k0 := 0) d_Scene_missedBy_44 rfl rfl) (a_cons (ι := Value.int) (k0 := 1) (p1 := 46) (fun _ => rfl) (e_iload_n (k0 := 1) d_Scene_missedBy_45 rfl rfl) (a_cons (ι := Value.int) (k0 := 1) (p1 := 47) (fun _ => rfl) (e_iload_n (k0 := 2) d_Scene_missedBy_46 rfl rfl) a_nil))) (k_virt ok_Scene_wantOf mf_Scene_wantOf ⟨tw_873, tw_874⟩ rfl tw_872 d_Scene_missedBy_47 (by decide) (by decide) (by decide))) d_Scene_missedBy_50)) rfl d_Scene_missedBy_51))))
/-! BlinkerCross$Scene.copyTo([I)V -/
abbrev y_Scene_copyTo : MethodName := ⟨"BlinkerCross$Scene", "copyTo", "([I)V"⟩
abbrev Y_Scene_copyTo : Yt := (prog_8_method_4_code, 2, "BlinkerCross$Scene", 1, none, "copyTo")
theorem d_Scene_copyTo_0 : decode prog_8_method_4_code 0 = .ok (.aload_n 0, 1) := by decide +kernel
theorem d_Scene_copyTo_1 : decode prog_8_method_4_code 1 = .ok (.getfield 9, 3) := by decide +kernel
theorem d_Scene_copyTo_4 : decode prog_8_method_4_code 4 = .ok (.iconst 0, 1) := by decide +kernel
theorem d_Scene_copyTo_5 : decode prog_8_method_4_code 5 = .ok (.aload_n 1, 1) := by decide +kernel
theorem d_Scene_copyTo_6 : decode prog_8_method_4_code 6 = .ok (.iconst 0, 1) := by decide +kernel
theorem d_Scene_copyTo_7 : decode prog_8_method_4_code 7 = .ok (.bipush 56, 2) := by decide +kernel
theorem d_Scene_copyTo_9 : decode prog_8_method_4_code 9 = .ok (.invokestatic 36, 3) := by decide +kernel
theorem d_Scene_copyTo_12 : decode prog_8_method_4_code 12 = .ok (.return_, 1) := by decide +kernel
noncomputable def F_Scene_copyTo : Sm := sSeq (sCpy (gR 4 0 (vR 0)) (kI (ii 0)) (vR 1) (kI (ii 0)) (kI (ii 56))) (sRetV)
theorem mf_Scene_copyTo : Mf y_Scene_copyTo prog_8_method_4_code 2 none 1 := ⟨tw_991, tw_126, by decide +kernel⟩
noncomputable def D_Scene_copyTo : Dn := runS [1, 1] F_Scene_copyTo
theorem ok_Scene_copyTo : MOK y_Scene_copyTo prog_8_method_4_code 2 none 1 0 0 D_Scene_copyTo := MOK.of (by decide) (by decide) (show SO Y_Scene_copyTo [(0, 1), (1, 1)] [(0, 1), (1, 1)] 0 13 (([], 0), ([], 0)) F_Scene_copyTo from
  (s_seq (sl1 := [(0, 1), (1, 1)]) (p1 := 12) (s_cpy (p1 := 4) (p2 := 5) (p3 := 6) (p4 := 7) (p5 := 9) (e_gR (k0 := 0) (p1 := 1) cf_4 (e_aload_n (k0 := 0) d_Scene_copyTo_0 rfl rfl) (by decide) tw_316 d_Scene_copyTo_1) (e_iconst d_Scene_copyTo_4 (by decide)) (e_aload_n (k0 := 1) d_Scene_copyTo_5 rfl rfl) (e_iconst d_Scene_copyTo_6 (by decide)) (e_bipush d_Scene_copyTo_7 (by decide)) ⟨tw_859, tw_854, tw_853, tw_141⟩ (by decide) d_Scene_copyTo_9) (s_retV rfl d_Scene_copyTo_12)))
/-! BlinkerCross$Scene.become([I)V -/
abbrev y_Scene_become : MethodName := ⟨"BlinkerCross$Scene", "become", "([I)V"⟩
abbrev Y_Scene_become : Yt := (prog_8_method_3_code, 2, "BlinkerCross$Scene", 3, none, "become")
theorem d_Scene_become_0 : decode prog_8_method_3_code 0 = .ok (.aload_n 1, 1) := by decide +kernel
theorem d_Scene_become_1 : decode prog_8_method_3_code 1 = .ok (.iconst 0, 1) := by decide +kernel
theorem d_Scene_become_2 : decode prog_8_method_3_code 2 = .ok (.aload_n 0, 1) := by decide +kernel
theorem d_Scene_become_3 : decode prog_8_method_3_code 3 = .ok (.getfield 9, 3) := by decide +kernel
theorem d_Scene_become_6 : decode prog_8_method_3_code 6 = .ok (.iconst 0, 1) := by decide +kernel
theorem d_Scene_become_7 : decode prog_8_method_3_code 7 = .ok (.bipush 56, 2) := by decide +kernel
theorem d_Scene_become_9 : decode prog_8_method_3_code 9 = .ok (.invokestatic 36, 3) := by decide +kernel
theorem d_Scene_become_12 : decode prog_8_method_3_code 12 = .ok (.aload_n 0, 1) := by decide +kernel
theorem d_Scene_become_13 : decode prog_8_method_3_code 13 = .ok (.invokevirtual 42, 3) := by decide +kernel
theorem d_Scene_become_16 : decode prog_8_method_3_code 16 = .ok (.return_, 1) := by decide +kernel
noncomputable def F_Scene_become : Sm := sSeq (sCpy (vR 1) (kI (ii 0)) (gR 4 0 (vR 0)) (kI (ii 0)) (kI (ii 56))) (sSeq (sCall (mV 4 D_Scene_choose) [asV Value.ref (vR 0)]) (sRetV))
theorem mf_Scene_become : Mf y_Scene_become prog_8_method_3_code 2 none 1 := ⟨tw_1045, tw_126, by decide +kernel⟩
noncomputable def D_Scene_become : Dn := runS [1, 1] F_Scene_become
theorem ok_Scene_become : MOK y_Scene_become prog_8_method_3_code 2 none 3 0 0 D_Scene_become := MOK.of (by decide) (by decide) (show SO Y_Scene_become [(0, 1), (1, 1)] [(0, 1), (1, 1)] 0 17 (([], 0), ([], 0)) F_Scene_become from
  (s_seq (sl1 := [(0, 1), (1, 1)]) (p1 := 12) (s_cpy (p1 := 1) (p2 := 2) (p3 := 6) (p4 := 7) (p5 := 9) (e_aload_n (k0 := 1) d_Scene_become_0 rfl rfl) (e_iconst d_Scene_become_1 (by decide)) (e_gR (k0 := 0) (p1 := 3) cf_4 (e_aload_n (k0 := 0) d_Scene_become_2 rfl rfl) (by decide) tw_316 d_Scene_become_3) (e_iconst d_Scene_become_6 (by decide)) (e_bipush d_Scene_become_7 (by decide)) ⟨tw_859, tw_854, tw_853, tw_141⟩ (by decide) d_Scene_become_9) (s_seq (sl1 := [(0, 1), (1, 1)]) (p1 := 16) (s_call (p1 := 13) (a_cons (ι := Value.ref) (k0 := 1) (p1 := 13) (fun _ => rfl) (e_aload_n (k0 := 0) d_Scene_become_12 rfl rfl) a_nil) (k_virt ok_Scene_choose mf_Scene_choose ⟨tw_861, tw_862⟩ rfl tw_860 d_Scene_become_13 (by decide) (by decide) (by decide))) (s_retV rfl d_Scene_become_16))))
/-! BlinkerCross$Scene.leastToChoose(II)I -/
abbrev y_Scene_leastToChoose : MethodName := ⟨"BlinkerCross$Scene", "leastToChoose", "(II)I"⟩
abbrev Y_Scene_leastToChoose : Yt := (prog_8_method_13_code, 7, "BlinkerCross$Scene", 2, (some .int), "leastToChoose")
theorem d_Scene_leastToChoose_0 : decode prog_8_method_13_code 0 = .ok (.iconst 0, 1) := by decide +kernel
theorem d_Scene_leastToChoose_1 : decode prog_8_method_13_code 1 = .ok (.istore_n 3, 1) := by decide +kernel
theorem d_Scene_leastToChoose_2 : decode prog_8_method_13_code 2 = .ok (.iconst 0, 1) := by decide +kernel
theorem d_Scene_leastToChoose_3 : decode prog_8_method_13_code 3 = .ok (.istore 4, 2) := by decide +kernel
theorem d_Scene_leastToChoose_5 : decode prog_8_method_13_code 5 = .ok (.iconst 0, 1) := by decide +kernel
theorem d_Scene_leastToChoose_6 : decode prog_8_method_13_code 6 = .ok (.istore 5, 2) := by decide +kernel
theorem d_Scene_leastToChoose_8 : decode prog_8_method_13_code 8 = .ok (.iload 5, 2) := by decide +kernel
theorem d_Scene_leastToChoose_10 : decode prog_8_method_13_code 10 = .ok (.aload_n 0, 1) := by decide +kernel
theorem d_Scene_leastToChoose_11 : decode prog_8_method_13_code 11 = .ok (.iload_n 1, 1) := by decide +kernel
theorem d_Scene_leastToChoose_12 : decode prog_8_method_13_code 12 = .ok (.invokevirtual 77, 3) := by decide +kernel
theorem d_Scene_leastToChoose_15 : decode prog_8_method_13_code 15 = .ok (.if_icmp .ge 53, 3) := by decide +kernel
theorem d_Scene_leastToChoose_18 : decode prog_8_method_13_code 18 = .ok (.aload_n 0, 1) := by decide +kernel
theorem d_Scene_leastToChoose_19 : decode prog_8_method_13_code 19 = .ok (.iload_n 1, 1) := by decide +kernel
theorem d_Scene_leastToChoose_20 : decode prog_8_method_13_code 20 = .ok (.iload 5, 2) := by decide +kernel
theorem d_Scene_leastToChoose_22 : decode prog_8_method_13_code 22 = .ok (.invokevirtual 65, 3) := by decide +kernel
theorem d_Scene_leastToChoose_25 : decode prog_8_method_13_code 25 = .ok (.istore 6, 2) := by decide +kernel
theorem d_Scene_leastToChoose_27 : decode prog_8_method_13_code 27 = .ok (.iload 6, 2) := by decide +kernel
theorem d_Scene_leastToChoose_29 : decode prog_8_method_13_code 29 = .ok (.iload_n 2, 1) := by decide +kernel
theorem d_Scene_leastToChoose_30 : decode prog_8_method_13_code 30 = .ok (.if_icmp .ne 9, 3) := by decide +kernel
theorem d_Scene_leastToChoose_33 : decode prog_8_method_13_code 33 = .ok (.iconst 1, 1) := by decide +kernel
theorem d_Scene_leastToChoose_34 : decode prog_8_method_13_code 34 = .ok (.istore 4, 2) := by decide +kernel
theorem d_Scene_leastToChoose_36 : decode prog_8_method_13_code 36 = .ok (.goto 26, 3) := by decide +kernel
theorem d_Scene_leastToChoose_39 : decode prog_8_method_13_code 39 = .ok (.iload_n 3, 1) := by decide +kernel
theorem d_Scene_leastToChoose_40 : decode prog_8_method_13_code 40 = .ok (.aload_n 0, 1) := by decide +kernel
theorem d_Scene_leastToChoose_41 : decode prog_8_method_13_code 41 = .ok (.iload_n 1, 1) := by decide +kernel
theorem d_Scene_leastToChoose_42 : decode prog_8_method_13_code 42 = .ok (.iload 6, 2) := by decide +kernel
theorem d_Scene_leastToChoose_44 : decode prog_8_method_13_code 44 = .ok (.invokevirtual 68, 3) := by decide +kernel
theorem d_Scene_leastToChoose_47 : decode prog_8_method_13_code 47 = .ok (.iload 4, 2) := by decide +kernel
theorem d_Scene_leastToChoose_49 : decode prog_8_method_13_code 49 = .ok (.ifCond .eq 7, 3) := by decide +kernel
theorem d_Scene_leastToChoose_52 : decode prog_8_method_13_code 52 = .ok (.iconst 0, 1) := by decide +kernel
theorem d_Scene_leastToChoose_53 : decode prog_8_method_13_code 53 = .ok (.goto 4, 3) := by decide +kernel
theorem d_Scene_leastToChoose_56 : decode prog_8_method_13_code 56 = .ok (.iconst 1, 1) := by decide +kernel
theorem d_Scene_leastToChoose_57 : decode prog_8_method_13_code 57 = .ok (.iadd, 1) := by decide +kernel
theorem d_Scene_leastToChoose_58 : decode prog_8_method_13_code 58 = .ok (.invokestatic 71, 3) := by decide +kernel
theorem d_Scene_leastToChoose_61 : decode prog_8_method_13_code 61 = .ok (.istore_n 3, 1) := by decide +kernel
theorem d_Scene_leastToChoose_62 : decode prog_8_method_13_code 62 = .ok (.iinc 5 1, 3) := by decide +kernel
theorem d_Scene_leastToChoose_65 : decode prog_8_method_13_code 65 = .ok (.goto (-57), 3) := by decide +kernel
theorem d_Scene_leastToChoose_68 : decode prog_8_method_13_code 68 = .ok (.iload 4, 2) := by decide +kernel
theorem d_Scene_leastToChoose_70 : decode prog_8_method_13_code 70 = .ok (.ifCond .eq 7, 3) := by decide +kernel
theorem d_Scene_leastToChoose_73 : decode prog_8_method_13_code 73 = .ok (.iload_n 3, 1) := by decide +kernel
theorem d_Scene_leastToChoose_74 : decode prog_8_method_13_code 74 = .ok (.goto 4, 3) := by decide +kernel
theorem d_Scene_leastToChoose_77 : decode prog_8_method_13_code 77 = .ok (.iconst (-1), 1) := by decide +kernel
theorem d_Scene_leastToChoose_78 : decode prog_8_method_13_code 78 = .ok (.ireturn, 1) := by decide +kernel
noncomputable def Lc_Scene_leastToChoose_1 : Xp Bool := o2 (fun x y => decide (x < y)) (vI 5) (cI (mV 4 D_Scene_seenCount) [asV Value.ref (vR 0), asV Value.int (vI 1)])
noncomputable def Lb_Scene_leastToChoose_1 : Sm := sBlk 6 (sSeq (sDecl (asV Value.int (cI (mV 4 D_Scene_roadAt) [asV Value.ref (vR 0), asV Value.int (vI 1), asV Value.int (vI 5)]))) (sIf (o2 (fun x y => decide (x = y)) (vI 6) (vI 2)) (sSet 4 (asV Value.int (kI (ii 1)))) (sSet 3 (asV Value.int (o2 (fun x y => if x < y then y else x) (vI 3) (o2 (fun x y => x + y) (cI (mV 4 D_Scene_wantOf) [asV Value.ref (vR 0), asV Value.int (vI 1), asV Value.int (vI 6)]) (iX (o1 (fun x => decide (x ≠ 0)) (vI 4)) (kI (ii 0)) (kI (ii 1)))))))))
noncomputable def Lu_Scene_leastToChoose_1 : Sm := sInc 5 (ii 1)
noncomputable def F_Scene_leastToChoose : Sm := sSeq (sDecl (asV Value.int (kI (ii 0)))) (sSeq (sDecl (asV Value.int (kI (ii 0)))) (sSeq (sBlk 5 (sSeq (sDecl (asV Value.int (kI (ii 0)))) (sWh (Lc_Scene_leastToChoose_1) (Lb_Scene_leastToChoose_1) Lu_Scene_leastToChoose_1))) (sRet (asV Value.int (iX (o1 (fun x => decide (x ≠ 0)) (vI 4)) (vI 3) (kI (ii (-1))))))))
theorem mf_Scene_leastToChoose : Mf y_Scene_leastToChoose prog_8_method_13_code 7 (some .int) 2 := ⟨tw_1203, tw_126, by decide +kernel⟩
noncomputable def D_Scene_leastToChoose : Dn := runS [1, 1, 1] F_Scene_leastToChoose
theorem ok_Scene_leastToChoose : MOK y_Scene_leastToChoose prog_8_method_13_code 7 (some .int) 2 0 0 D_Scene_leastToChoose := MOK.of (by decide) (by decide) (show SO Y_Scene_leastToChoose [(0, 1), (1, 1), (2, 1)] [(0, 1), (1, 1), (2, 1), (3, 1), (4, 1)] 0 79 (([], 0), ([], 0)) F_Scene_leastToChoose from
  (s_seq (sl1 := [(0, 1), (1, 1), (2, 1), (3, 1)]) (p1 := 2) (s_decl (p1 := 1) (e_iconst d_Scene_leastToChoose_0 (by decide)) (t_istore_n d_Scene_leastToChoose_1 rfl (by decide)) rfl) (s_seq (sl1 := [(0, 1), (1, 1), (2, 1), (3, 1), (4, 1)]) (p1 := 5) (s_decl (p1 := 3) (e_iconst d_Scene_leastToChoose_2 (by decide)) (t_istore d_Scene_leastToChoose_3 (by decide)) rfl) (s_seq (sl1 := [(0, 1), (1, 1), (2, 1), (3, 1), (4, 1)]) (p1 := 68) (s_blk (sl1 := [(0, 1), (1, 1), (2, 1), (3, 1), (4, 1), (5, 1)]) (s_seq (sl1 := [(0, 1), (1, 1), (2, 1), (3, 1), (4, 1), (5, 1)]) (p1 := 8) (s_decl (p1 := 6) (e_iconst d_Scene_leastToChoose_5 (by decide)) (t_istore d_Scene_leastToChoose_6 (by decide)) rfl) (s_for (pt := 18) (pu := 62) (pf := 68) (pg := 0) (c_icmp_geF (p1 := 10) (p2 := 15) (tg := 68) (e_iload (k0 := 5) d_Scene_leastToChoose_8 rfl) (e_cI (p1 := 12) (a_cons (ι := Value.ref) (k0 := 1) (p1 := 11) (fun _ => rfl) (e_aload_n (k0 := 0) d_Scene_leastToChoose_10 rfl rfl) (a_cons (ι := Value.int) (k0 := 1) (p1 := 12) (fun _ => rfl) (e_iload_n (k0 := 1) d_Scene_leastToChoose_11 rfl rfl) a_nil)) (k_virt ok_Scene_seenCount mf_Scene_seenCount ⟨tw_901, tw_902⟩ rfl tw_900 d_Scene_leastToChoose_12 (by decide) (by decide) (by decide))) d_Scene_leastToChoose_15 rfl) (s_blk (sl1 := [(0, 1), (1, 1), (2, 1), (3, 1), (4, 1), (5, 1), (6, 1)]) (s_seq (sl1 := [(0, 1), (1, 1), (2, 1), (3, 1), (4, 1), (5, 1), (6, 1)]) (p1 := 27) (s_decl (p1 := 25) (e_cI (p1 := 22) (a_cons (ι := Value.ref) (k0 := 1) (p1 := 19) (fun _ => rfl) (e_aload_n (k0 := 0) d_Scene_leastToChoose_18 rfl rfl) (a_cons (ι := Value.int) (k0 := 1) (p1 := 20) (fun _ => rfl) (e_iload_n (k0 := 1) d_Scene_leastToChoose_19 rfl rfl) (a_cons (ι := Value.int) (k0 := 1) (p1 := 22) (fun _ => rfl) (e_iload (k0 := 5) d_Scene_leastToChoose_20 rfl) a_nil))) (k_virt ok_Scene_roadAt mf_Scene_roadAt ⟨tw_869, tw_870⟩ rfl tw_868 d_Scene_leastToChoose_22 (by decide) (by decide) (by decide))) (t_istore d_Scene_leastToChoose_25 (by decide)) rfl) (s_if (pt := 33) (pf := 39) (p1 := 62) (c_icmp_neF (p1 := 29) (p2 := 30) (tg := 39) (e_iload (k0 := 6) d_Scene_leastToChoose_27 rfl) (e_iload_n (k0 := 2) d_Scene_leastToChoose_29 rfl rfl) d_Scene_leastToChoose_30 rfl) (s_goto (p1 := 36) (s_set (k0 := 4) (p1 := 34) (e_iconst d_Scene_leastToChoose_33 (by decide)) (t_istore d_Scene_leastToChoose_34 (by decide)) rfl rfl) d_Scene_leastToChoose_36 rfl) (s_set (k0 := 3) (p1 := 61) (e_max (p1 := 40) (p2 := 58) (e_iload_n (k0 := 3) d_Scene_leastToChoose_39 rfl rfl) (e_iadd (p1 := 47) (p2 := 57) (e_cI (p1 := 44) (a_cons (ι := Value.ref) (k0 := 1) (p1 := 41) (fun _ => rfl) (e_aload_n (k0 := 0) d_Scene_leastToChoose_40 rfl rfl) (a_cons (ι := Value.int) (k0 := 1) (p1 := 42) (fun _ => rfl) (e_iload_n (k0 := 1) d_Scene_leastToChoose_41 rfl rfl) (a_cons (ι := Value.int) (k0 := 1) (p1 := 44) (fun _ => rfl) (e_iload (k0 := 6) d_Scene_leastToChoose_42 rfl) a_nil))) (k_virt ok_Scene_wantOf mf_Scene_wantOf ⟨tw_873, tw_874⟩ rfl tw_872 d_Scene_leastToChoose_44 (by decide) (by decide) (by decide))) (e_ite (pt := 52) (p1 := 53) (pf := 56) (c_if_eqF (p1 := 49) (tg := 56) (e_iload (k0 := 4) d_Scene_leastToChoose_47 rfl) d_Scene_leastToChoose_49 rfl) (e_iconst d_Scene_leastToChoose_52 (by decide)) d_Scene_leastToChoose_53 rfl (e_iconst d_Scene_leastToChoose_56 (by decide))) d_Scene_leastToChoose_57) ⟨tw_931, tw_720, tw_139, tw_721⟩ d_Scene_leastToChoose_58 (by decide) (by decide)) (t_istore_n d_Scene_leastToChoose_61 rfl (by decide)) rfl rfl))) rfl) (s_goto (p1 := 65) (s_inc (k0 := 5) d_Scene_leastToChoose_62 rfl rfl (Nat.le_of_ble_eq_true rfl) rfl) d_Scene_leastToChoose_65 rfl))) rfl) (s_ret (p1 := 78) (e_ite (pt := 73) (p1 := 74) (pf := 77) (c_if_eqF (p1 := 70) (tg := 77) (e_iload (k0 := 4) d_Scene_leastToChoose_68 rfl) d_Scene_leastToChoose_70 rfl) (e_iload_n (k0 := 3) d_Scene_leastToChoose_73 rfl rfl) d_Scene_leastToChoose_74 rfl (e_iconst d_Scene_leastToChoose_77 (by decide))) rfl d_Scene_leastToChoose_78)))))
/-! BlinkerCross$Scene.missedByAll()I -/
abbrev y_Scene_missedByAll : MethodName := ⟨"BlinkerCross$Scene", "missedByAll", "()I"⟩
abbrev Y_Scene_missedByAll : Yt := (prog_8_method_12_code, 3, "BlinkerCross$Scene", 2, (some .int), "missedByAll")
theorem d_Scene_missedByAll_0 : decode prog_8_method_12_code 0 = .ok (.iconst 0, 1) := by decide +kernel
theorem d_Scene_missedByAll_1 : decode prog_8_method_12_code 1 = .ok (.istore_n 1, 1) := by decide +kernel
theorem d_Scene_missedByAll_2 : decode prog_8_method_12_code 2 = .ok (.iconst 0, 1) := by decide +kernel
theorem d_Scene_missedByAll_3 : decode prog_8_method_12_code 3 = .ok (.istore_n 2, 1) := by decide +kernel
theorem d_Scene_missedByAll_4 : decode prog_8_method_12_code 4 = .ok (.iload_n 2, 1) := by decide +kernel
theorem d_Scene_missedByAll_5 : decode prog_8_method_12_code 5 = .ok (.aload_n 0, 1) := by decide +kernel
theorem d_Scene_missedByAll_6 : decode prog_8_method_12_code 6 = .ok (.getfield 21, 3) := by decide +kernel
theorem d_Scene_missedByAll_9 : decode prog_8_method_12_code 9 = .ok (.getfield 45, 3) := by decide +kernel
theorem d_Scene_missedByAll_12 : decode prog_8_method_12_code 12 = .ok (.if_icmp .ge 23, 3) := by decide +kernel
theorem d_Scene_missedByAll_15 : decode prog_8_method_12_code 15 = .ok (.iload_n 1, 1) := by decide +kernel
theorem d_Scene_missedByAll_16 : decode prog_8_method_12_code 16 = .ok (.aload_n 0, 1) := by decide +kernel
theorem d_Scene_missedByAll_17 : decode prog_8_method_12_code 17 = .ok (.iload_n 2, 1) := by decide +kernel
theorem d_Scene_missedByAll_18 : decode prog_8_method_12_code 18 = .ok (.aload_n 0, 1) := by decide +kernel
theorem d_Scene_missedByAll_19 : decode prog_8_method_12_code 19 = .ok (.getfield 15, 3) := by decide +kernel
theorem d_Scene_missedByAll_22 : decode prog_8_method_12_code 22 = .ok (.iload_n 2, 1) := by decide +kernel
theorem d_Scene_missedByAll_23 : decode prog_8_method_12_code 23 = .ok (.iaload, 1) := by decide +kernel
theorem d_Scene_missedByAll_24 : decode prog_8_method_12_code 24 = .ok (.invokevirtual 74, 3) := by decide +kernel
theorem d_Scene_missedByAll_27 : decode prog_8_method_12_code 27 = .ok (.iadd, 1) := by decide +kernel
theorem d_Scene_missedByAll_28 : decode prog_8_method_12_code 28 = .ok (.istore_n 1, 1) := by decide +kernel
theorem d_Scene_missedByAll_29 : decode prog_8_method_12_code 29 = .ok (.iinc 2 1, 3) := by decide +kernel
theorem d_Scene_missedByAll_32 : decode prog_8_method_12_code 32 = .ok (.goto (-28), 3) := by decide +kernel
theorem d_Scene_missedByAll_35 : decode prog_8_method_12_code 35 = .ok (.iload_n 1, 1) := by decide +kernel
theorem d_Scene_missedByAll_36 : decode prog_8_method_12_code 36 = .ok (.ireturn, 1) := by decide +kernel
noncomputable def Lc_Scene_missedByAll_1 : Xp Bool := o2 (fun x y => decide (x < y)) (vI 2) (gI 2 1 (gR 4 4 (vR 0)))
noncomputable def Lb_Scene_missedByAll_1 : Sm := sSet 1 (asV Value.int (o2 (fun x y => x + y) (vI 1) (cI (mV 4 D_Scene_missedBy) [asV Value.ref (vR 0), asV Value.int (vI 2), asV Value.int (aI 0 (gR 4 1 (vR 0)) (vI 2))])))
noncomputable def Lu_Scene_missedByAll_1 : Sm := sInc 2 (ii 1)
noncomputable def F_Scene_missedByAll : Sm := sSeq (sDecl (asV Value.int (kI (ii 0)))) (sSeq (sBlk 2 (sSeq (sDecl (asV Value.int (kI (ii 0)))) (sWh (Lc_Scene_missedByAll_1) (Lb_Scene_missedByAll_1) Lu_Scene_missedByAll_1))) (sRet (asV Value.int (vI 1))))
theorem mf_Scene_missedByAll : Mf y_Scene_missedByAll prog_8_method_12_code 3 (some .int) 0 := ⟨tw_1313, tw_126, by decide +kernel⟩
noncomputable def D_Scene_missedByAll : Dn := runS [1] F_Scene_missedByAll
theorem ok_Scene_missedByAll : MOK y_Scene_missedByAll prog_8_method_12_code 3 (some .int) 2 0 0 D_Scene_missedByAll := MOK.of (by decide) (by decide) (show SO Y_Scene_missedByAll [(0, 1)] [(0, 1), (1, 1)] 0 37 (([], 0), ([], 0)) F_Scene_missedByAll from
  (s_seq (sl1 := [(0, 1), (1, 1)]) (p1 := 2) (s_decl (p1 := 1) (e_iconst d_Scene_missedByAll_0 (by decide)) (t_istore_n d_Scene_missedByAll_1 rfl (by decide)) rfl) (s_seq (sl1 := [(0, 1), (1, 1)]) (p1 := 35) (s_blk (sl1 := [(0, 1), (1, 1), (2, 1)]) (s_seq (sl1 := [(0, 1), (1, 1), (2, 1)]) (p1 := 4) (s_decl (p1 := 3) (e_iconst d_Scene_missedByAll_2 (by decide)) (t_istore_n d_Scene_missedByAll_3 rfl (by decide)) rfl) (s_for (pt := 15) (pu := 29) (pf := 35) (pg := 0) (c_icmp_geF (p1 := 5) (p2 := 12) (tg := 35) (e_iload_n (k0 := 2) d_Scene_missedByAll_4 rfl rfl) (e_gI (k0 := 1) (p1 := 9) cf_2 (e_gR (k0 := 4) (p1 := 6) cf_4 (e_aload_n (k0 := 0) d_Scene_missedByAll_5 rfl rfl) (by decide) tw_333 d_Scene_missedByAll_6) (by decide) tw_210 d_Scene_missedByAll_9) d_Scene_missedByAll_12 rfl) (s_set (k0 := 1) (p1 := 28) (e_iadd (p1 := 16) (p2 := 27) (e_iload_n (k0 := 1) d_Scene_missedByAll_15 rfl rfl) (e_cI (p1 := 24) (a_cons (ι := Value.ref) (k0 := 1) (p1 := 17) (fun _ => rfl) (e_aload_n (k0 := 0) d_Scene_missedByAll_16 rfl rfl) (a_cons (ι := Value.int) (k0 := 1) (p1 := 18) (fun _ => rfl) (e_iload_n (k0 := 2) d_Scene_missedByAll_17 rfl rfl) (a_cons (ι := Value.int) (k0 := 1) (p1 := 24) (fun _ => rfl) (e_iald (p1 := 22) (p2 := 23) (e_gR (k0 := 1) (p1 := 19) cf_4 (e_aload_n (k0 := 0) d_Scene_missedByAll_18 rfl rfl) (by decide) tw_322 d_Scene_missedByAll_19) (e_iload_n (k0 := 2) d_Scene_missedByAll_22 rfl rfl) d_Scene_missedByAll_23) a_nil))) (k_virt ok_Scene_missedBy mf_Scene_missedBy ⟨tw_949, tw_950⟩ rfl tw_1314 d_Scene_missedByAll_24 (by decide) (by decide) (by decide))) d_Scene_missedByAll_27) (t_istore_n d_Scene_missedByAll_28 rfl (by decide)) rfl rfl) (s_goto (p1 := 32) (s_inc (k0 := 2) d_Scene_missedByAll_29 rfl rfl (Nat.le_of_ble_eq_true rfl) rfl) d_Scene_missedByAll_32 rfl))) rfl) (s_ret (p1 := 36) (e_iload_n (k0 := 1) d_Scene_missedByAll_35 rfl rfl) rfl d_Scene_missedByAll_36))))
/-! BlinkerCross$Scene.chosenBits()I -/
abbrev y_Scene_chosenBits : MethodName := ⟨"BlinkerCross$Scene", "chosenBits", "()I"⟩
abbrev Y_Scene_chosenBits : Yt := (prog_8_method_17_code, 3, "BlinkerCross$Scene", 0, (some .int), "chosenBits")
theorem d_Scene_chosenBits_0 : decode prog_8_method_17_code 0 = .ok (.iconst 0, 1) := by decide +kernel
theorem d_Scene_chosenBits_1 : decode prog_8_method_17_code 1 = .ok (.istore_n 1, 1) := by decide +kernel
theorem d_Scene_chosenBits_2 : decode prog_8_method_17_code 2 = .ok (.iconst 0, 1) := by decide +kernel
theorem d_Scene_chosenBits_3 : decode prog_8_method_17_code 3 = .ok (.istore_n 2, 1) := by decide +kernel
theorem d_Scene_chosenBits_4 : decode prog_8_method_17_code 4 = .ok (.iload_n 2, 1) := by decide +kernel
theorem d_Scene_chosenBits_5 : decode prog_8_method_17_code 5 = .ok (.aload_n 0, 1) := by decide +kernel
theorem d_Scene_chosenBits_6 : decode prog_8_method_17_code 6 = .ok (.getfield 21, 3) := by decide +kernel
theorem d_Scene_chosenBits_9 : decode prog_8_method_17_code 9 = .ok (.getfield 56, 3) := by decide +kernel
theorem d_Scene_chosenBits_12 : decode prog_8_method_17_code 12 = .ok (.if_icmp .ge 24, 3) := by decide +kernel
theorem d_Scene_chosenBits_15 : decode prog_8_method_17_code 15 = .ok (.aload_n 0, 1) := by decide +kernel
theorem d_Scene_chosenBits_16 : decode prog_8_method_17_code 16 = .ok (.getfield 18, 3) := by decide +kernel
theorem d_Scene_chosenBits_19 : decode prog_8_method_17_code 19 = .ok (.iload_n 2, 1) := by decide +kernel
theorem d_Scene_chosenBits_20 : decode prog_8_method_17_code 20 = .ok (.iaload, 1) := by decide +kernel
theorem d_Scene_chosenBits_21 : decode prog_8_method_17_code 21 = .ok (.ifCond .le 9, 3) := by decide +kernel
theorem d_Scene_chosenBits_24 : decode prog_8_method_17_code 24 = .ok (.iload_n 1, 1) := by decide +kernel
theorem d_Scene_chosenBits_25 : decode prog_8_method_17_code 25 = .ok (.iconst 1, 1) := by decide +kernel
theorem d_Scene_chosenBits_26 : decode prog_8_method_17_code 26 = .ok (.iload_n 2, 1) := by decide +kernel
theorem d_Scene_chosenBits_27 : decode prog_8_method_17_code 27 = .ok (.ishl, 1) := by decide +kernel
theorem d_Scene_chosenBits_28 : decode prog_8_method_17_code 28 = .ok (.ior, 1) := by decide +kernel
theorem d_Scene_chosenBits_29 : decode prog_8_method_17_code 29 = .ok (.istore_n 1, 1) := by decide +kernel
theorem d_Scene_chosenBits_30 : decode prog_8_method_17_code 30 = .ok (.iinc 2 1, 3) := by decide +kernel
theorem d_Scene_chosenBits_33 : decode prog_8_method_17_code 33 = .ok (.goto (-29), 3) := by decide +kernel
theorem d_Scene_chosenBits_36 : decode prog_8_method_17_code 36 = .ok (.iload_n 1, 1) := by decide +kernel
theorem d_Scene_chosenBits_37 : decode prog_8_method_17_code 37 = .ok (.ireturn, 1) := by decide +kernel
noncomputable def Lc_Scene_chosenBits_1 : Xp Bool := o2 (fun x y => decide (x < y)) (vI 2) (gI 2 0 (gR 4 4 (vR 0)))
noncomputable def Lb_Scene_chosenBits_1 : Sm := sIf (o1 (fun x => decide (x > 0)) (aI 0 (gR 4 2 (vR 0)) (vI 2))) (sSet 1 (asV Value.int (o2 (fun x y => x ||| y) (vI 1) (o2 (fun (x y : Int32) => x <<< (y &&& 31)) (kI (ii 1)) (vI 2))))) (sSkip)
noncomputable def Lu_Scene_chosenBits_1 : Sm := sInc 2 (ii 1)
noncomputable def F_Scene_chosenBits : Sm := sSeq (sDecl (asV Value.int (kI (ii 0)))) (sSeq (sBlk 2 (sSeq (sDecl (asV Value.int (kI (ii 0)))) (sWh (Lc_Scene_chosenBits_1) (Lb_Scene_chosenBits_1) Lu_Scene_chosenBits_1))) (sRet (asV Value.int (vI 1))))
theorem mf_Scene_chosenBits : Mf y_Scene_chosenBits prog_8_method_17_code 3 (some .int) 0 := ⟨tw_1323, tw_126, by decide +kernel⟩
noncomputable def D_Scene_chosenBits : Dn := runS [1] F_Scene_chosenBits
theorem ok_Scene_chosenBits : MOK y_Scene_chosenBits prog_8_method_17_code 3 (some .int) 0 0 0 D_Scene_chosenBits := MOK.of (by decide) (by decide) (show SO Y_Scene_chosenBits [(0, 1)] [(0, 1), (1, 1)] 0 38 (([], 0), ([], 0)) F_Scene_chosenBits from
  (s_seq (sl1 := [(0, 1), (1, 1)]) (p1 := 2) (s_decl (p1 := 1) (e_iconst d_Scene_chosenBits_0 (by decide)) (t_istore_n d_Scene_chosenBits_1 rfl (by decide)) rfl) (s_seq (sl1 := [(0, 1), (1, 1)]) (p1 := 36) (s_blk (sl1 := [(0, 1), (1, 1), (2, 1)]) (s_seq (sl1 := [(0, 1), (1, 1), (2, 1)]) (p1 := 4) (s_decl (p1 := 3) (e_iconst d_Scene_chosenBits_2 (by decide)) (t_istore_n d_Scene_chosenBits_3 rfl (by decide)) rfl) (s_for (pt := 15) (pu := 30) (pf := 36) (pg := 0) (c_icmp_geF (p1 := 5) (p2 := 12) (tg := 36) (e_iload_n (k0 := 2) d_Scene_chosenBits_4 rfl rfl) (e_gI (k0 := 0) (p1 := 9) cf_2 (e_gR (k0 := 4) (p1 := 6) cf_4 (e_aload_n (k0 := 0) d_Scene_chosenBits_5 rfl rfl) (by decide) tw_333 d_Scene_chosenBits_6) (by decide) tw_200 d_Scene_chosenBits_9) d_Scene_chosenBits_12 rfl) (s_if (pt := 24) (pf := 30) (c_if_leF (p1 := 21) (tg := 30) (e_iald (p1 := 19) (p2 := 20) (e_gR (k0 := 2) (p1 := 16) cf_4 (e_aload_n (k0 := 0) d_Scene_chosenBits_15 rfl rfl) (by decide) tw_327 d_Scene_chosenBits_16) (e_iload_n (k0 := 2) d_Scene_chosenBits_19 rfl rfl) d_Scene_chosenBits_20) d_Scene_chosenBits_21 rfl) (s_set (k0 := 1) (p1 := 29) (e_ior (p1 := 25) (p2 := 28) (e_iload_n (k0 := 1) d_Scene_chosenBits_24 rfl rfl) (e_ishl (p1 := 26) (p2 := 27) (e_iconst d_Scene_chosenBits_25 (by decide)) (e_iload_n (k0 := 2) d_Scene_chosenBits_26 rfl rfl) d_Scene_chosenBits_27) d_Scene_chosenBits_28) (t_istore_n d_Scene_chosenBits_29 rfl (by decide)) rfl rfl) s_skip) (s_goto (p1 := 33) (s_inc (k0 := 2) d_Scene_chosenBits_30 rfl rfl (Nat.le_of_ble_eq_true rfl) rfl) d_Scene_chosenBits_33 rfl))) rfl) (s_ret (p1 := 37) (e_iload_n (k0 := 1) d_Scene_chosenBits_36 rfl rfl) rfl d_Scene_chosenBits_37))))
/-! BlinkerCross$Scene.seenByAnyBits()I -/
abbrev y_Scene_seenByAnyBits : MethodName := ⟨"BlinkerCross$Scene", "seenByAnyBits", "()I"⟩
abbrev Y_Scene_seenByAnyBits : Yt := (prog_8_method_15_code, 3, "BlinkerCross$Scene", 3, (some .int), "seenByAnyBits")
theorem d_Scene_seenByAnyBits_0 : decode prog_8_method_15_code 0 = .ok (.iconst 0, 1) := by decide +kernel
theorem d_Scene_seenByAnyBits_1 : decode prog_8_method_15_code 1 = .ok (.istore_n 1, 1) := by decide +kernel
theorem d_Scene_seenByAnyBits_2 : decode prog_8_method_15_code 2 = .ok (.iconst 0, 1) := by decide +kernel
theorem d_Scene_seenByAnyBits_3 : decode prog_8_method_15_code 3 = .ok (.istore_n 2, 1) := by decide +kernel
theorem d_Scene_seenByAnyBits_4 : decode prog_8_method_15_code 4 = .ok (.iload_n 2, 1) := by decide +kernel
theorem d_Scene_seenByAnyBits_5 : decode prog_8_method_15_code 5 = .ok (.aload_n 0, 1) := by decide +kernel
theorem d_Scene_seenByAnyBits_6 : decode prog_8_method_15_code 6 = .ok (.getfield 21, 3) := by decide +kernel
theorem d_Scene_seenByAnyBits_9 : decode prog_8_method_15_code 9 = .ok (.getfield 45, 3) := by decide +kernel
theorem d_Scene_seenByAnyBits_12 : decode prog_8_method_15_code 12 = .ok (.if_icmp .ge 17, 3) := by decide +kernel
theorem d_Scene_seenByAnyBits_15 : decode prog_8_method_15_code 15 = .ok (.iload_n 1, 1) := by decide +kernel
theorem d_Scene_seenByAnyBits_16 : decode prog_8_method_15_code 16 = .ok (.aload_n 0, 1) := by decide +kernel
theorem d_Scene_seenByAnyBits_17 : decode prog_8_method_15_code 17 = .ok (.iload_n 2, 1) := by decide +kernel
theorem d_Scene_seenByAnyBits_18 : decode prog_8_method_15_code 18 = .ok (.invokevirtual 81, 3) := by decide +kernel
theorem d_Scene_seenByAnyBits_21 : decode prog_8_method_15_code 21 = .ok (.ior, 1) := by decide +kernel
theorem d_Scene_seenByAnyBits_22 : decode prog_8_method_15_code 22 = .ok (.istore_n 1, 1) := by decide +kernel
theorem d_Scene_seenByAnyBits_23 : decode prog_8_method_15_code 23 = .ok (.iinc 2 1, 3) := by decide +kernel
theorem d_Scene_seenByAnyBits_26 : decode prog_8_method_15_code 26 = .ok (.goto (-22), 3) := by decide +kernel
theorem d_Scene_seenByAnyBits_29 : decode prog_8_method_15_code 29 = .ok (.iload_n 1, 1) := by decide +kernel
theorem d_Scene_seenByAnyBits_30 : decode prog_8_method_15_code 30 = .ok (.ireturn, 1) := by decide +kernel
noncomputable def Lc_Scene_seenByAnyBits_1 : Xp Bool := o2 (fun x y => decide (x < y)) (vI 2) (gI 2 1 (gR 4 4 (vR 0)))
noncomputable def Lb_Scene_seenByAnyBits_1 : Sm := sSet 1 (asV Value.int (o2 (fun x y => x ||| y) (vI 1) (cI (mV 4 D_Scene_seenBits) [asV Value.ref (vR 0), asV Value.int (vI 2)])))
noncomputable def Lu_Scene_seenByAnyBits_1 : Sm := sInc 2 (ii 1)
noncomputable def F_Scene_seenByAnyBits : Sm := sSeq (sDecl (asV Value.int (kI (ii 0)))) (sSeq (sBlk 2 (sSeq (sDecl (asV Value.int (kI (ii 0)))) (sWh (Lc_Scene_seenByAnyBits_1) (Lb_Scene_seenByAnyBits_1) Lu_Scene_seenByAnyBits_1))) (sRet (asV Value.int (vI 1))))
theorem mf_Scene_seenByAnyBits : Mf y_Scene_seenByAnyBits prog_8_method_15_code 3 (some .int) 0 := ⟨tw_1327, tw_126, by decide +kernel⟩
noncomputable def D_Scene_seenByAnyBits : Dn := runS [1] F_Scene_seenByAnyBits
theorem ok_Scene_seenByAnyBits : MOK y_Scene_seenByAnyBits prog_8_method_15_code 3 (some .int) 3 0 0 D_Scene_seenByAnyBits := MOK.of (by decide) (by decide) (show SO Y_Scene_seenByAnyBits [(0, 1)] [(0, 1), (1, 1)] 0 31 (([], 0), ([], 0)) F_Scene_seenByAnyBits from
  (s_seq (sl1 := [(0, 1), (1, 1)]) (p1 := 2) (s_decl (p1 := 1) (e_iconst d_Scene_seenByAnyBits_0 (by decide)) (t_istore_n d_Scene_seenByAnyBits_1 rfl (by decide)) rfl) (s_seq (sl1 := [(0, 1), (1, 1)]) (p1 := 29) (s_blk (sl1 := [(0, 1), (1, 1), (2, 1)]) (s_seq (sl1 := [(0, 1), (1, 1), (2, 1)]) (p1 := 4) (s_decl (p1 := 3) (e_iconst d_Scene_seenByAnyBits_2 (by decide)) (t_istore_n d_Scene_seenByAnyBits_3 rfl (by decide)) rfl) (s_for (pt := 15) (pu := 23) (pf := 29) (pg := 0) (c_icmp_geF (p1 := 5) (p2 := 12) (tg := 29) (e_iload_n (k0 := 2) d_Scene_seenByAnyBits_4 rfl rfl) (e_gI (k0 := 1) (p1 := 9) cf_2 (e_gR (k0 := 4) (p1 := 6) cf_4 (e_aload_n (k0 := 0) d_Scene_seenByAnyBits_5 rfl rfl) (by decide) tw_333 d_Scene_seenByAnyBits_6) (by decide) tw_210 d_Scene_seenByAnyBits_9) d_Scene_seenByAnyBits_12 rfl) (s_set (k0 := 1) (p1 := 22) (e_ior (p1 := 16) (p2 := 21) (e_iload_n (k0 := 1) d_Scene_seenByAnyBits_15 rfl rfl) (e_cI (p1 := 18) (a_cons (ι := Value.ref) (k0 := 1) (p1 := 17) (fun _ => rfl) (e_aload_n (k0 := 0) d_Scene_seenByAnyBits_16 rfl rfl) (a_cons (ι := Value.int) (k0 := 1) (p1 := 18) (fun _ => rfl) (e_iload_n (k0 := 2) d_Scene_seenByAnyBits_17 rfl rfl) a_nil)) (k_virt ok_Scene_seenBits mf_Scene_seenBits ⟨tw_897, tw_898⟩ rfl tw_896 d_Scene_seenByAnyBits_18 (by decide) (by decide) (by decide))) d_Scene_seenByAnyBits_21) (t_istore_n d_Scene_seenByAnyBits_22 rfl (by decide)) rfl rfl) (s_goto (p1 := 26) (s_inc (k0 := 2) d_Scene_seenByAnyBits_23 rfl rfl (Nat.le_of_ble_eq_true rfl) rfl) d_Scene_seenByAnyBits_26 rfl))) rfl) (s_ret (p1 := 30) (e_iload_n (k0 := 1) d_Scene_seenByAnyBits_29 rfl rfl) rfl d_Scene_seenByAnyBits_30))))
/-! BlinkerCross$Scene.sumFrom(I)I -/
abbrev y_Scene_sumFrom : MethodName := ⟨"BlinkerCross$Scene", "sumFrom", "(I)I"⟩
abbrev Y_Scene_sumFrom : Yt := (prog_8_method_19_code, 4, "BlinkerCross$Scene", 0, (some .int), "sumFrom")
theorem d_Scene_sumFrom_0 : decode prog_8_method_19_code 0 = .ok (.iconst 0, 1) := by decide +kernel
theorem d_Scene_sumFrom_1 : decode prog_8_method_19_code 1 = .ok (.istore_n 2, 1) := by decide +kernel
theorem d_Scene_sumFrom_2 : decode prog_8_method_19_code 2 = .ok (.iconst 0, 1) := by decide +kernel
theorem d_Scene_sumFrom_3 : decode prog_8_method_19_code 3 = .ok (.istore_n 3, 1) := by decide +kernel
theorem d_Scene_sumFrom_4 : decode prog_8_method_19_code 4 = .ok (.iload_n 3, 1) := by decide +kernel
theorem d_Scene_sumFrom_5 : decode prog_8_method_19_code 5 = .ok (.aload_n 0, 1) := by decide +kernel
theorem d_Scene_sumFrom_6 : decode prog_8_method_19_code 6 = .ok (.getfield 21, 3) := by decide +kernel
theorem d_Scene_sumFrom_9 : decode prog_8_method_19_code 9 = .ok (.getfield 45, 3) := by decide +kernel
theorem d_Scene_sumFrom_12 : decode prog_8_method_19_code 12 = .ok (.if_icmp .ge 20, 3) := by decide +kernel
theorem d_Scene_sumFrom_15 : decode prog_8_method_19_code 15 = .ok (.iload_n 2, 1) := by decide +kernel
theorem d_Scene_sumFrom_16 : decode prog_8_method_19_code 16 = .ok (.aload_n 0, 1) := by decide +kernel
theorem d_Scene_sumFrom_17 : decode prog_8_method_19_code 17 = .ok (.getfield 9, 3) := by decide +kernel
theorem d_Scene_sumFrom_20 : decode prog_8_method_19_code 20 = .ok (.iload_n 1, 1) := by decide +kernel
theorem d_Scene_sumFrom_21 : decode prog_8_method_19_code 21 = .ok (.iload_n 3, 1) := by decide +kernel
theorem d_Scene_sumFrom_22 : decode prog_8_method_19_code 22 = .ok (.iadd, 1) := by decide +kernel
theorem d_Scene_sumFrom_23 : decode prog_8_method_19_code 23 = .ok (.iaload, 1) := by decide +kernel
theorem d_Scene_sumFrom_24 : decode prog_8_method_19_code 24 = .ok (.iadd, 1) := by decide +kernel
theorem d_Scene_sumFrom_25 : decode prog_8_method_19_code 25 = .ok (.istore_n 2, 1) := by decide +kernel
theorem d_Scene_sumFrom_26 : decode prog_8_method_19_code 26 = .ok (.iinc 3 1, 3) := by decide +kernel
theorem d_Scene_sumFrom_29 : decode prog_8_method_19_code 29 = .ok (.goto (-25), 3) := by decide +kernel
theorem d_Scene_sumFrom_32 : decode prog_8_method_19_code 32 = .ok (.iload_n 2, 1) := by decide +kernel
theorem d_Scene_sumFrom_33 : decode prog_8_method_19_code 33 = .ok (.ireturn, 1) := by decide +kernel
noncomputable def Lc_Scene_sumFrom_1 : Xp Bool := o2 (fun x y => decide (x < y)) (vI 3) (gI 2 1 (gR 4 4 (vR 0)))
noncomputable def Lb_Scene_sumFrom_1 : Sm := sSet 2 (asV Value.int (o2 (fun x y => x + y) (vI 2) (aI 0 (gR 4 0 (vR 0)) (o2 (fun x y => x + y) (vI 1) (vI 3)))))
noncomputable def Lu_Scene_sumFrom_1 : Sm := sInc 3 (ii 1)
noncomputable def F_Scene_sumFrom : Sm := sSeq (sDecl (asV Value.int (kI (ii 0)))) (sSeq (sBlk 3 (sSeq (sDecl (asV Value.int (kI (ii 0)))) (sWh (Lc_Scene_sumFrom_1) (Lb_Scene_sumFrom_1) Lu_Scene_sumFrom_1))) (sRet (asV Value.int (vI 2))))
theorem mf_Scene_sumFrom : Mf y_Scene_sumFrom prog_8_method_19_code 4 (some .int) 1 := ⟨tw_1335, tw_126, by decide +kernel⟩
noncomputable def D_Scene_sumFrom : Dn := runS [1, 1] F_Scene_sumFrom
theorem ok_Scene_sumFrom : MOK y_Scene_sumFrom prog_8_method_19_code 4 (some .int) 0 0 0 D_Scene_sumFrom := MOK.of (by decide) (by decide) (show SO Y_Scene_sumFrom [(0, 1), (1, 1)] [(0, 1), (1, 1), (2, 1)] 0 34 (([], 0), ([], 0)) F_Scene_sumFrom from
  (s_seq (sl1 := [(0, 1), (1, 1), (2, 1)]) (p1 := 2) (s_decl (p1 := 1) (e_iconst d_Scene_sumFrom_0 (by decide)) (t_istore_n d_Scene_sumFrom_1 rfl (by decide)) rfl) (s_seq (sl1 := [(0, 1), (1, 1), (2, 1)]) (p1 := 32) (s_blk (sl1 := [(0, 1), (1, 1), (2, 1), (3, 1)]) (s_seq (sl1 := [(0, 1), (1, 1), (2, 1), (3, 1)]) (p1 := 4) (s_decl (p1 := 3) (e_iconst d_Scene_sumFrom_2 (by decide)) (t_istore_n d_Scene_sumFrom_3 rfl (by decide)) rfl) (s_for (pt := 15) (pu := 26) (pf := 32) (pg := 0) (c_icmp_geF (p1 := 5) (p2 := 12) (tg := 32) (e_iload_n (k0 := 3) d_Scene_sumFrom_4 rfl rfl) (e_gI (k0 := 1) (p1 := 9) cf_2 (e_gR (k0 := 4) (p1 := 6) cf_4 (e_aload_n (k0 := 0) d_Scene_sumFrom_5 rfl rfl) (by decide) tw_333 d_Scene_sumFrom_6) (by decide) tw_210 d_Scene_sumFrom_9) d_Scene_sumFrom_12 rfl) (s_set (k0 := 2) (p1 := 25) (e_iadd (p1 := 16) (p2 := 24) (e_iload_n (k0 := 2) d_Scene_sumFrom_15 rfl rfl) (e_iald (p1 := 20) (p2 := 23) (e_gR (k0 := 0) (p1 := 17) cf_4 (e_aload_n (k0 := 0) d_Scene_sumFrom_16 rfl rfl) (by decide) tw_316 d_Scene_sumFrom_17) (e_iadd (p1 := 21) (p2 := 22) (e_iload_n (k0 := 1) d_Scene_sumFrom_20 rfl rfl) (e_iload_n (k0 := 3) d_Scene_sumFrom_21 rfl rfl) d_Scene_sumFrom_22) d_Scene_sumFrom_23) d_Scene_sumFrom_24) (t_istore_n d_Scene_sumFrom_25 rfl (by decide)) rfl rfl) (s_goto (p1 := 29) (s_inc (k0 := 3) d_Scene_sumFrom_26 rfl rfl (Nat.le_of_ble_eq_true rfl) rfl) d_Scene_sumFrom_29 rfl))) rfl) (s_ret (p1 := 33) (e_iload_n (k0 := 2) d_Scene_sumFrom_32 rfl rfl) rfl d_Scene_sumFrom_33))))

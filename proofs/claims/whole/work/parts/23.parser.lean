/-! Methods: bytes, denotations, that the bytes do so (written by wip/whole/jgen.py). -/
/-! BlinkerCross$Parser.fail(II)V -/
abbrev y_Parser_fail : MethodName := ⟨"BlinkerCross$Parser", "fail", "(II)V"⟩
abbrev Y_Parser_fail : Yt := (prog_6_method_3_code, 3, "BlinkerCross$Parser", 0, none, "fail")
theorem d_Parser_fail_0 : decode prog_6_method_3_code 0 = .ok (.aload_n 0, 1) := by decide +kernel
theorem d_Parser_fail_1 : decode prog_6_method_3_code 1 = .ok (.getfield 41, 3) := by decide +kernel
theorem d_Parser_fail_4 : decode prog_6_method_3_code 4 = .ok (.ifCond .ne 13, 3) := by decide +kernel
theorem d_Parser_fail_7 : decode prog_6_method_3_code 7 = .ok (.aload_n 0, 1) := by decide +kernel
theorem d_Parser_fail_8 : decode prog_6_method_3_code 8 = .ok (.iload_n 1, 1) := by decide +kernel
theorem d_Parser_fail_9 : decode prog_6_method_3_code 9 = .ok (.putfield 41, 3) := by decide +kernel
theorem d_Parser_fail_12 : decode prog_6_method_3_code 12 = .ok (.aload_n 0, 1) := by decide +kernel
theorem d_Parser_fail_13 : decode prog_6_method_3_code 13 = .ok (.iload_n 2, 1) := by decide +kernel
theorem d_Parser_fail_14 : decode prog_6_method_3_code 14 = .ok (.putfield 44, 3) := by decide +kernel
theorem d_Parser_fail_17 : decode prog_6_method_3_code 17 = .ok (.return_, 1) := by decide +kernel
noncomputable def F_Parser_fail : Sm := sSeq (sIf (o1 (fun x => decide (x = 0)) (gI 3 5 (vR 0))) (sSeq (sPut 3 5 (vR 0) (asV Value.int (vI 1))) (sPut 3 6 (vR 0) (asV Value.int (vI 2)))) (sSkip)) (sRetV)
theorem mf_Parser_fail : Mf y_Parser_fail prog_6_method_3_code 3 none 2 := ⟨tw_778, tw_125, by decide +kernel⟩
noncomputable def D_Parser_fail : Dn := runS [1, 1, 1] F_Parser_fail
theorem ok_Parser_fail : MOK y_Parser_fail prog_6_method_3_code 3 none 0 0 0 D_Parser_fail := MOK.of (by decide) (by decide) (show SO Y_Parser_fail [(0, 1), (1, 1), (2, 1)] [(0, 1), (1, 1), (2, 1)] 0 18 (([], 0), ([], 0)) F_Parser_fail from
  (s_seq (sl1 := [(0, 1), (1, 1), (2, 1)]) (p1 := 17) (s_if (pt := 7) (pf := 17) (c_if_neF (p1 := 4) (tg := 17) (e_gI (k0 := 5) (p1 := 1) cf_3 (e_aload_n (k0 := 0) d_Parser_fail_0 rfl rfl) (by decide) tw_278 d_Parser_fail_1) d_Parser_fail_4 rfl) (s_seq (sl1 := [(0, 1), (1, 1), (2, 1)]) (p1 := 12) (s_put (k0 := 5) (p1 := 8) (p2 := 9) cf_3 (e_aload_n (k0 := 0) d_Parser_fail_7 rfl rfl) (e_iload_n (k0 := 1) d_Parser_fail_8 rfl rfl) (by decide) fk_i tw_278 (Or.inl rfl) d_Parser_fail_9) (s_put (k0 := 6) (p1 := 13) (p2 := 14) cf_3 (e_aload_n (k0 := 0) d_Parser_fail_12 rfl rfl) (e_iload_n (k0 := 2) d_Parser_fail_13 rfl rfl) (by decide) fk_i tw_279 (Or.inl rfl) d_Parser_fail_14)) s_skip) (s_retV rfl d_Parser_fail_17)))
/-! BlinkerCross$Parser.take(I)V -/
abbrev y_Parser_take : MethodName := ⟨"BlinkerCross$Parser", "take", "(I)V"⟩
abbrev Y_Parser_take : Yt := (prog_6_method_4_code, 2, "BlinkerCross$Parser", 0, none, "take")
theorem d_Parser_take_0 : decode prog_6_method_4_code 0 = .ok (.aload_n 0, 1) := by decide +kernel
theorem d_Parser_take_1 : decode prog_6_method_4_code 1 = .ok (.getfield 41, 3) := by decide +kernel
theorem d_Parser_take_4 : decode prog_6_method_4_code 4 = .ok (.ifCond .eq 4, 3) := by decide +kernel
theorem d_Parser_take_7 : decode prog_6_method_4_code 7 = .ok (.return_, 1) := by decide +kernel
theorem d_Parser_take_8 : decode prog_6_method_4_code 8 = .ok (.aload_n 0, 1) := by decide +kernel
theorem d_Parser_take_9 : decode prog_6_method_4_code 9 = .ok (.getfield 54, 3) := by decide +kernel
theorem d_Parser_take_12 : decode prog_6_method_4_code 12 = .ok (.iload_n 1, 1) := by decide +kernel
theorem d_Parser_take_13 : decode prog_6_method_4_code 13 = .ok (.if_icmp .ne 42, 3) := by decide +kernel
theorem d_Parser_take_16 : decode prog_6_method_4_code 16 = .ok (.aload_n 0, 1) := by decide +kernel
theorem d_Parser_take_17 : decode prog_6_method_4_code 17 = .ok (.getfield 47, 3) := by decide +kernel
theorem d_Parser_take_20 : decode prog_6_method_4_code 20 = .ok (.sipush 400, 3) := by decide +kernel
theorem d_Parser_take_23 : decode prog_6_method_4_code 23 = .ok (.if_icmp .ge 32, 3) := by decide +kernel
theorem d_Parser_take_26 : decode prog_6_method_4_code 26 = .ok (.aload_n 0, 1) := by decide +kernel
theorem d_Parser_take_27 : decode prog_6_method_4_code 27 = .ok (.dup, 1) := by decide +kernel
theorem d_Parser_take_28 : decode prog_6_method_4_code 28 = .ok (.getfield 47, 3) := by decide +kernel
theorem d_Parser_take_31 : decode prog_6_method_4_code 31 = .ok (.iconst 1, 1) := by decide +kernel
theorem d_Parser_take_32 : decode prog_6_method_4_code 32 = .ok (.iadd, 1) := by decide +kernel
theorem d_Parser_take_33 : decode prog_6_method_4_code 33 = .ok (.putfield 47, 3) := by decide +kernel
theorem d_Parser_take_36 : decode prog_6_method_4_code 36 = .ok (.aload_n 0, 1) := by decide +kernel
theorem d_Parser_take_37 : decode prog_6_method_4_code 37 = .ok (.aload_n 0, 1) := by decide +kernel
theorem d_Parser_take_38 : decode prog_6_method_4_code 38 = .ok (.getfield 29, 3) := by decide +kernel
theorem d_Parser_take_41 : decode prog_6_method_4_code 41 = .ok (.getfield 76, 3) := by decide +kernel
theorem d_Parser_take_44 : decode prog_6_method_4_code 44 = .ok (.aload_n 0, 1) := by decide +kernel
theorem d_Parser_take_45 : decode prog_6_method_4_code 45 = .ok (.getfield 47, 3) := by decide +kernel
theorem d_Parser_take_48 : decode prog_6_method_4_code 48 = .ok (.iaload, 1) := by decide +kernel
theorem d_Parser_take_49 : decode prog_6_method_4_code 49 = .ok (.putfield 54, 3) := by decide +kernel
theorem d_Parser_take_52 : decode prog_6_method_4_code 52 = .ok (.goto 28, 3) := by decide +kernel
theorem d_Parser_take_55 : decode prog_6_method_4_code 55 = .ok (.aload_n 0, 1) := by decide +kernel
theorem d_Parser_take_56 : decode prog_6_method_4_code 56 = .ok (.aload_n 0, 1) := by decide +kernel
theorem d_Parser_take_57 : decode prog_6_method_4_code 57 = .ok (.getfield 54, 3) := by decide +kernel
theorem d_Parser_take_60 : decode prog_6_method_4_code 60 = .ok (.iload_n 1, 1) := by decide +kernel
theorem d_Parser_take_61 : decode prog_6_method_4_code 61 = .ok (.if_icmp .ne 7, 3) := by decide +kernel
theorem d_Parser_take_64 : decode prog_6_method_4_code 64 = .ok (.iconst 2, 1) := by decide +kernel
theorem d_Parser_take_65 : decode prog_6_method_4_code 65 = .ok (.goto 4, 3) := by decide +kernel
theorem d_Parser_take_68 : decode prog_6_method_4_code 68 = .ok (.iconst 1, 1) := by decide +kernel
theorem d_Parser_take_69 : decode prog_6_method_4_code 69 = .ok (.putfield 41, 3) := by decide +kernel
theorem d_Parser_take_72 : decode prog_6_method_4_code 72 = .ok (.aload_n 0, 1) := by decide +kernel
theorem d_Parser_take_73 : decode prog_6_method_4_code 73 = .ok (.aload_n 0, 1) := by decide +kernel
theorem d_Parser_take_74 : decode prog_6_method_4_code 74 = .ok (.getfield 47, 3) := by decide +kernel
theorem d_Parser_take_77 : decode prog_6_method_4_code 77 = .ok (.putfield 44, 3) := by decide +kernel
theorem d_Parser_take_80 : decode prog_6_method_4_code 80 = .ok (.return_, 1) := by decide +kernel
noncomputable def F_Parser_take : Sm := sSeq (sIf (o1 (fun x => decide (x ≠ 0)) (gI 3 5 (vR 0))) (sRetV) (sSkip)) (sSeq (sIf (cAnd (o2 (fun x y => decide (x = y)) (gI 3 8 (vR 0)) (vI 1)) (o2 (fun x y => decide (x < y)) (gI 3 7 (vR 0)) (kI (ii 400)))) (sSeq (sFop 3 7 (vR 0) (fun x y => x + y) (kI (ii 1))) (sPut 3 8 (vR 0) (asV Value.int (aI 0 (gR 1 2 (gR 3 2 (vR 0))) (gI 3 7 (vR 0)))))) (sSeq (sPut 3 5 (vR 0) (asV Value.int (iX (o2 (fun x y => decide (x = y)) (gI 3 8 (vR 0)) (vI 1)) (kI (ii 2)) (kI (ii 1))))) (sPut 3 6 (vR 0) (asV Value.int (gI 3 7 (vR 0)))))) (sRetV))
theorem mf_Parser_take : Mf y_Parser_take prog_6_method_4_code 2 none 1 := ⟨tw_782, tw_125, by decide +kernel⟩
noncomputable def D_Parser_take : Dn := runS [1, 1] F_Parser_take
theorem ok_Parser_take : MOK y_Parser_take prog_6_method_4_code 2 none 0 0 0 D_Parser_take := MOK.of (by decide) (by decide) (show SO Y_Parser_take [(0, 1), (1, 1)] [(0, 1), (1, 1)] 0 81 (([], 0), ([], 0)) F_Parser_take from
  (s_seq (sl1 := [(0, 1), (1, 1)]) (p1 := 8) (s_if (pt := 7) (pf := 8) (c_if_eqF (p1 := 4) (tg := 8) (e_gI (k0 := 5) (p1 := 1) cf_3 (e_aload_n (k0 := 0) d_Parser_take_0 rfl rfl) (by decide) tw_278 d_Parser_take_1) d_Parser_take_4 rfl) (s_retV rfl d_Parser_take_7) s_skip) (s_seq (sl1 := [(0, 1), (1, 1)]) (p1 := 80) (s_if (pt := 26) (pf := 55) (p1 := 80) (c_and (p1 := 16) (c_icmp_neF (p1 := 12) (p2 := 13) (tg := 55) (e_gI (k0 := 8) (p1 := 9) cf_3 (e_aload_n (k0 := 0) d_Parser_take_8 rfl rfl) (by decide) tw_281 d_Parser_take_9) (e_iload_n (k0 := 1) d_Parser_take_12 rfl rfl) d_Parser_take_13 rfl) (c_icmp_geF (p1 := 20) (p2 := 23) (tg := 55) (e_gI (k0 := 7) (p1 := 17) cf_3 (e_aload_n (k0 := 0) d_Parser_take_16 rfl rfl) (by decide) tw_280 d_Parser_take_17) (e_sipush d_Parser_take_20 (by decide)) d_Parser_take_23 rfl)) (s_seq (sl1 := [(0, 1), (1, 1)]) (p1 := 36) (s_fop (k0 := 7) (p1 := 27) (p2 := 32) cf_3 (e_aload_n (k0 := 0) d_Parser_take_26 rfl rfl) d_Parser_take_27 d_Parser_take_28 (e_iconst d_Parser_take_31 (by decide)) (op_iadd d_Parser_take_32) (by decide) rfl tw_280 tw_280 rfl d_Parser_take_33) (s_goto (p1 := 52) (s_put (k0 := 8) (p1 := 37) (p2 := 49) cf_3 (e_aload_n (k0 := 0) d_Parser_take_36 rfl rfl) (e_iald (p1 := 44) (p2 := 48) (e_gR (k0 := 2) (p1 := 41) cf_1 (e_gR (k0 := 2) (p1 := 38) cf_3 (e_aload_n (k0 := 0) d_Parser_take_37 rfl rfl) (by decide) tw_275 d_Parser_take_38) (by decide) tw_161 d_Parser_take_41) (e_gI (k0 := 7) (p1 := 45) cf_3 (e_aload_n (k0 := 0) d_Parser_take_44 rfl rfl) (by decide) tw_280 d_Parser_take_45) d_Parser_take_48) (by decide) fk_i tw_281 (Or.inl rfl) d_Parser_take_49) d_Parser_take_52 rfl)) (s_seq (sl1 := [(0, 1), (1, 1)]) (p1 := 72) (s_put (k0 := 5) (p1 := 56) (p2 := 69) cf_3 (e_aload_n (k0 := 0) d_Parser_take_55 rfl rfl) (e_ite (pt := 64) (p1 := 65) (pf := 68) (c_icmp_neF (p1 := 60) (p2 := 61) (tg := 68) (e_gI (k0 := 8) (p1 := 57) cf_3 (e_aload_n (k0 := 0) d_Parser_take_56 rfl rfl) (by decide) tw_281 d_Parser_take_57) (e_iload_n (k0 := 1) d_Parser_take_60 rfl rfl) d_Parser_take_61 rfl) (e_iconst d_Parser_take_64 (by decide)) d_Parser_take_65 rfl (e_iconst d_Parser_take_68 (by decide))) (by decide) fk_i tw_278 (Or.inl rfl) d_Parser_take_69) (s_put (k0 := 6) (p1 := 73) (p2 := 77) cf_3 (e_aload_n (k0 := 0) d_Parser_take_72 rfl rfl) (e_gI (k0 := 7) (p1 := 74) cf_3 (e_aload_n (k0 := 0) d_Parser_take_73 rfl rfl) (by decide) tw_280 d_Parser_take_74) (by decide) fk_i tw_279 (Or.inl rfl) d_Parser_take_77))) (s_retV rfl d_Parser_take_80))))
/-! BlinkerCross$Parser.readNamed(IIZ)V -/
abbrev y_Parser_readNamed : MethodName := ⟨"BlinkerCross$Parser", "readNamed", "(IIZ)V"⟩
abbrev Y_Parser_readNamed : Yt := (prog_6_method_6_code, 5, "BlinkerCross$Parser", 1, none, "readNamed")
theorem d_Parser_readNamed_0 : decode prog_6_method_6_code 0 = .ok (.iload_n 3, 1) := by decide +kernel
theorem d_Parser_readNamed_1 : decode prog_6_method_6_code 1 = .ok (.ifCond .eq 12, 3) := by decide +kernel
theorem d_Parser_readNamed_4 : decode prog_6_method_6_code 4 = .ok (.aload_n 0, 1) := by decide +kernel
theorem d_Parser_readNamed_5 : decode prog_6_method_6_code 5 = .ok (.iconst 2, 1) := by decide +kernel
theorem d_Parser_readNamed_6 : decode prog_6_method_6_code 6 = .ok (.aload_n 0, 1) := by decide +kernel
theorem d_Parser_readNamed_7 : decode prog_6_method_6_code 7 = .ok (.getfield 47, 3) := by decide +kernel
theorem d_Parser_readNamed_10 : decode prog_6_method_6_code 10 = .ok (.invokevirtual 87, 3) := by decide +kernel
theorem d_Parser_readNamed_13 : decode prog_6_method_6_code 13 = .ok (.aload_n 0, 1) := by decide +kernel
theorem d_Parser_readNamed_14 : decode prog_6_method_6_code 14 = .ok (.iload_n 1, 1) := by decide +kernel
theorem d_Parser_readNamed_15 : decode prog_6_method_6_code 15 = .ok (.invokevirtual 91, 3) := by decide +kernel
theorem d_Parser_readNamed_18 : decode prog_6_method_6_code 18 = .ok (.iconst 0, 1) := by decide +kernel
theorem d_Parser_readNamed_19 : decode prog_6_method_6_code 19 = .ok (.istore 4, 2) := by decide +kernel
theorem d_Parser_readNamed_21 : decode prog_6_method_6_code 21 = .ok (.iload 4, 2) := by decide +kernel
theorem d_Parser_readNamed_23 : decode prog_6_method_6_code 23 = .ok (.iload_n 2, 1) := by decide +kernel
theorem d_Parser_readNamed_24 : decode prog_6_method_6_code 24 = .ok (.if_icmp .ge 15, 3) := by decide +kernel
theorem d_Parser_readNamed_27 : decode prog_6_method_6_code 27 = .ok (.aload_n 0, 1) := by decide +kernel
theorem d_Parser_readNamed_28 : decode prog_6_method_6_code 28 = .ok (.bipush 20, 2) := by decide +kernel
theorem d_Parser_readNamed_30 : decode prog_6_method_6_code 30 = .ok (.invokevirtual 91, 3) := by decide +kernel
theorem d_Parser_readNamed_33 : decode prog_6_method_6_code 33 = .ok (.iinc 4 1, 3) := by decide +kernel
theorem d_Parser_readNamed_36 : decode prog_6_method_6_code 36 = .ok (.goto (-15), 3) := by decide +kernel
theorem d_Parser_readNamed_39 : decode prog_6_method_6_code 39 = .ok (.aload_n 0, 1) := by decide +kernel
theorem d_Parser_readNamed_40 : decode prog_6_method_6_code 40 = .ok (.bipush 21, 2) := by decide +kernel
theorem d_Parser_readNamed_42 : decode prog_6_method_6_code 42 = .ok (.invokevirtual 91, 3) := by decide +kernel
theorem d_Parser_readNamed_45 : decode prog_6_method_6_code 45 = .ok (.aload_n 0, 1) := by decide +kernel
theorem d_Parser_readNamed_46 : decode prog_6_method_6_code 46 = .ok (.bipush 22, 2) := by decide +kernel
theorem d_Parser_readNamed_48 : decode prog_6_method_6_code 48 = .ok (.invokevirtual 91, 3) := by decide +kernel
theorem d_Parser_readNamed_51 : decode prog_6_method_6_code 51 = .ok (.return_, 1) := by decide +kernel
noncomputable def Lc_Parser_readNamed_1 : Xp Bool := o2 (fun x y => decide (x < y)) (vI 4) (vI 2)
noncomputable def Lb_Parser_readNamed_1 : Sm := sCall (mV 3 D_Parser_take) [asV Value.ref (vR 0), asV Value.int (kI (ii 20))]
noncomputable def Lu_Parser_readNamed_1 : Sm := sInc 4 (ii 1)
noncomputable def F_Parser_readNamed : Sm := sSeq (sIf (o1 (fun x => decide (x ≠ 0)) (vI 3)) (sCall (mV 3 D_Parser_fail) [asV Value.ref (vR 0), asV Value.int (kI (ii 2)), asV Value.int (gI 3 7 (vR 0))]) (sSkip)) (sSeq (sCall (mV 3 D_Parser_take) [asV Value.ref (vR 0), asV Value.int (vI 1)]) (sSeq (sBlk 4 (sSeq (sDecl (asV Value.int (kI (ii 0)))) (sWh (Lc_Parser_readNamed_1) (Lb_Parser_readNamed_1) Lu_Parser_readNamed_1))) (sSeq (sCall (mV 3 D_Parser_take) [asV Value.ref (vR 0), asV Value.int (kI (ii 21))]) (sSeq (sCall (mV 3 D_Parser_take) [asV Value.ref (vR 0), asV Value.int (kI (ii 22))]) (sRetV)))))
theorem mf_Parser_readNamed : Mf y_Parser_readNamed prog_6_method_6_code 5 none 3 := ⟨tw_774, tw_125, by decide +kernel⟩
noncomputable def D_Parser_readNamed : Dn := runS [1, 1, 1, 1] F_Parser_readNamed
theorem ok_Parser_readNamed : MOK y_Parser_readNamed prog_6_method_6_code 5 none 1 0 0 D_Parser_readNamed := MOK.of (by decide) (by decide) (show SO Y_Parser_readNamed [(0, 1), (1, 1), (2, 1), (3, 1)] [(0, 1), (1, 1), (2, 1), (3, 1)] 0 52 (([], 0), ([], 0)) F_Parser_readNamed from
  (s_seq (sl1 := [(0, 1), (1, 1), (2, 1), (3, 1)]) (p1 := 13) (s_if (pt := 4) (pf := 13) (c_if_eqF (p1 := 1) (tg := 13) (e_iload_n (k0 := 3) d_Parser_readNamed_0 rfl rfl) d_Parser_readNamed_1 rfl) (s_call (p1 := 10) (a_cons (ι := Value.ref) (k0 := 1) (p1 := 5) (fun _ => rfl) (e_aload_n (k0 := 0) d_Parser_readNamed_4 rfl rfl) (a_cons (ι := Value.int) (k0 := 1) (p1 := 6) (fun _ => rfl) (e_iconst d_Parser_readNamed_5 (by decide)) (a_cons (ι := Value.int) (k0 := 1) (p1 := 10) (fun _ => rfl) (e_gI (k0 := 7) (p1 := 7) cf_3 (e_aload_n (k0 := 0) d_Parser_readNamed_6 rfl rfl) (by decide) tw_280 d_Parser_readNamed_7) a_nil))) (k_virt ok_Parser_fail mf_Parser_fail ⟨tw_777, tw_8⟩ rfl tw_775 d_Parser_readNamed_10 (by decide) (by decide) (by decide))) s_skip) (s_seq (sl1 := [(0, 1), (1, 1), (2, 1), (3, 1)]) (p1 := 18) (s_call (p1 := 15) (a_cons (ι := Value.ref) (k0 := 1) (p1 := 14) (fun _ => rfl) (e_aload_n (k0 := 0) d_Parser_readNamed_13 rfl rfl) (a_cons (ι := Value.int) (k0 := 1) (p1 := 15) (fun _ => rfl) (e_iload_n (k0 := 1) d_Parser_readNamed_14 rfl rfl) a_nil)) (k_virt ok_Parser_take mf_Parser_take ⟨tw_781, tw_9⟩ rfl tw_779 d_Parser_readNamed_15 (by decide) (by decide) (by decide))) (s_seq (sl1 := [(0, 1), (1, 1), (2, 1), (3, 1)]) (p1 := 39) (s_blk (sl1 := [(0, 1), (1, 1), (2, 1), (3, 1), (4, 1)]) (s_seq (sl1 := [(0, 1), (1, 1), (2, 1), (3, 1), (4, 1)]) (p1 := 21) (s_decl (p1 := 19) (e_iconst d_Parser_readNamed_18 (by decide)) (t_istore d_Parser_readNamed_19 (by decide)) rfl) (s_for (pt := 27) (pu := 33) (pf := 39) (pg := 0) (c_icmp_geF (p1 := 23) (p2 := 24) (tg := 39) (e_iload (k0 := 4) d_Parser_readNamed_21 rfl) (e_iload_n (k0 := 2) d_Parser_readNamed_23 rfl rfl) d_Parser_readNamed_24 rfl) (s_call (p1 := 30) (a_cons (ι := Value.ref) (k0 := 1) (p1 := 28) (fun _ => rfl) (e_aload_n (k0 := 0) d_Parser_readNamed_27 rfl rfl) (a_cons (ι := Value.int) (k0 := 1) (p1 := 30) (fun _ => rfl) (e_bipush d_Parser_readNamed_28 (by decide)) a_nil)) (k_virt ok_Parser_take mf_Parser_take ⟨tw_781, tw_9⟩ rfl tw_779 d_Parser_readNamed_30 (by decide) (by decide) (by decide))) (s_goto (p1 := 36) (s_inc (k0 := 4) d_Parser_readNamed_33 rfl rfl (Nat.le_of_ble_eq_true rfl) rfl) d_Parser_readNamed_36 rfl))) rfl) (s_seq (sl1 := [(0, 1), (1, 1), (2, 1), (3, 1)]) (p1 := 45) (s_call (p1 := 42) (a_cons (ι := Value.ref) (k0 := 1) (p1 := 40) (fun _ => rfl) (e_aload_n (k0 := 0) d_Parser_readNamed_39 rfl rfl) (a_cons (ι := Value.int) (k0 := 1) (p1 := 42) (fun _ => rfl) (e_bipush d_Parser_readNamed_40 (by decide)) a_nil)) (k_virt ok_Parser_take mf_Parser_take ⟨tw_781, tw_9⟩ rfl tw_779 d_Parser_readNamed_42 (by decide) (by decide) (by decide))) (s_seq (sl1 := [(0, 1), (1, 1), (2, 1), (3, 1)]) (p1 := 51) (s_call (p1 := 48) (a_cons (ι := Value.ref) (k0 := 1) (p1 := 46) (fun _ => rfl) (e_aload_n (k0 := 0) d_Parser_readNamed_45 rfl rfl) (a_cons (ι := Value.int) (k0 := 1) (p1 := 48) (fun _ => rfl) (e_bipush d_Parser_readNamed_46 (by decide)) a_nil)) (k_virt ok_Parser_take mf_Parser_take ⟨tw_781, tw_9⟩ rfl tw_779 d_Parser_readNamed_48 (by decide) (by decide) (by decide))) (s_retV rfl d_Parser_readNamed_51)))))))
abbrev y_Parser_readSum : MethodName := ⟨"BlinkerCross$Parser", "readSum", "(I)V"⟩
theorem mf_Parser_readSum : Mf y_Parser_readSum prog_6_method_8_code 4 none 1 := ⟨tw_790, tw_125, by decide +kernel⟩
abbrev y_Parser_readProduct : MethodName := ⟨"BlinkerCross$Parser", "readProduct", "(I)V"⟩
theorem mf_Parser_readProduct : Mf y_Parser_readProduct prog_6_method_9_code 4 none 1 := ⟨tw_794, tw_125, by decide +kernel⟩
abbrev y_Parser_readUnit : MethodName := ⟨"BlinkerCross$Parser", "readUnit", "(I)V"⟩
theorem mf_Parser_readUnit : Mf y_Parser_readUnit prog_6_method_10_code 2 none 1 := ⟨tw_798, tw_125, by decide +kernel⟩
/-! BlinkerCross$Parser.readSum(I)V -/
abbrev Y_Parser_readSum (lv : Nat) : Yt := (prog_6_method_8_code, 4, "BlinkerCross$Parser", lv, none, "readSum")
theorem d_Parser_readSum_0 : decode prog_6_method_8_code 0 = .ok (.aload_n 0, 1) := by decide +kernel
theorem d_Parser_readSum_1 : decode prog_6_method_8_code 1 = .ok (.iload_n 1, 1) := by decide +kernel
theorem d_Parser_readSum_2 : decode prog_6_method_8_code 2 = .ok (.invokevirtual 109, 3) := by decide +kernel
theorem d_Parser_readSum_5 : decode prog_6_method_8_code 5 = .ok (.iconst 0, 1) := by decide +kernel
theorem d_Parser_readSum_6 : decode prog_6_method_8_code 6 = .ok (.istore_n 2, 1) := by decide +kernel
theorem d_Parser_readSum_7 : decode prog_6_method_8_code 7 = .ok (.iload_n 2, 1) := by decide +kernel
theorem d_Parser_readSum_8 : decode prog_6_method_8_code 8 = .ok (.sipush 400, 3) := by decide +kernel
theorem d_Parser_readSum_11 : decode prog_6_method_8_code 11 = .ok (.if_icmp .ge 68, 3) := by decide +kernel
theorem d_Parser_readSum_14 : decode prog_6_method_8_code 14 = .ok (.aload_n 0, 1) := by decide +kernel
theorem d_Parser_readSum_15 : decode prog_6_method_8_code 15 = .ok (.getfield 41, 3) := by decide +kernel
theorem d_Parser_readSum_18 : decode prog_6_method_8_code 18 = .ok (.ifCond .ne 61, 3) := by decide +kernel
theorem d_Parser_readSum_21 : decode prog_6_method_8_code 21 = .ok (.aload_n 0, 1) := by decide +kernel
theorem d_Parser_readSum_22 : decode prog_6_method_8_code 22 = .ok (.getfield 54, 3) := by decide +kernel
theorem d_Parser_readSum_25 : decode prog_6_method_8_code 25 = .ok (.bipush 24, 2) := by decide +kernel
theorem d_Parser_readSum_27 : decode prog_6_method_8_code 27 = .ok (.if_icmp .eq 12, 3) := by decide +kernel
theorem d_Parser_readSum_30 : decode prog_6_method_8_code 30 = .ok (.aload_n 0, 1) := by decide +kernel
theorem d_Parser_readSum_31 : decode prog_6_method_8_code 31 = .ok (.getfield 54, 3) := by decide +kernel
theorem d_Parser_readSum_34 : decode prog_6_method_8_code 34 = .ok (.bipush 25, 2) := by decide +kernel
theorem d_Parser_readSum_36 : decode prog_6_method_8_code 36 = .ok (.if_icmp .ne 43, 3) := by decide +kernel
theorem d_Parser_readSum_39 : decode prog_6_method_8_code 39 = .ok (.aload_n 0, 1) := by decide +kernel
theorem d_Parser_readSum_40 : decode prog_6_method_8_code 40 = .ok (.getfield 54, 3) := by decide +kernel
theorem d_Parser_readSum_43 : decode prog_6_method_8_code 43 = .ok (.istore_n 3, 1) := by decide +kernel
theorem d_Parser_readSum_44 : decode prog_6_method_8_code 44 = .ok (.aload_n 0, 1) := by decide +kernel
theorem d_Parser_readSum_45 : decode prog_6_method_8_code 45 = .ok (.iload_n 3, 1) := by decide +kernel
theorem d_Parser_readSum_46 : decode prog_6_method_8_code 46 = .ok (.invokevirtual 91, 3) := by decide +kernel
theorem d_Parser_readSum_49 : decode prog_6_method_8_code 49 = .ok (.aload_n 0, 1) := by decide +kernel
theorem d_Parser_readSum_50 : decode prog_6_method_8_code 50 = .ok (.iload_n 1, 1) := by decide +kernel
theorem d_Parser_readSum_51 : decode prog_6_method_8_code 51 = .ok (.invokevirtual 109, 3) := by decide +kernel
theorem d_Parser_readSum_54 : decode prog_6_method_8_code 54 = .ok (.aload_n 0, 1) := by decide +kernel
theorem d_Parser_readSum_55 : decode prog_6_method_8_code 55 = .ok (.getfield 12, 3) := by decide +kernel
theorem d_Parser_readSum_58 : decode prog_6_method_8_code 58 = .ok (.iload_n 3, 1) := by decide +kernel
theorem d_Parser_readSum_59 : decode prog_6_method_8_code 59 = .ok (.bipush 24, 2) := by decide +kernel
theorem d_Parser_readSum_61 : decode prog_6_method_8_code 61 = .ok (.if_icmp .ne 7, 3) := by decide +kernel
theorem d_Parser_readSum_64 : decode prog_6_method_8_code 64 = .ok (.iconst 4, 1) := by decide +kernel
theorem d_Parser_readSum_65 : decode prog_6_method_8_code 65 = .ok (.goto 4, 3) := by decide +kernel
theorem d_Parser_readSum_68 : decode prog_6_method_8_code 68 = .ok (.iconst 5, 1) := by decide +kernel
theorem d_Parser_readSum_69 : decode prog_6_method_8_code 69 = .ok (.iconst 0, 1) := by decide +kernel
theorem d_Parser_readSum_70 : decode prog_6_method_8_code 70 = .ok (.invokevirtual 103, 3) := by decide +kernel
theorem d_Parser_readSum_73 : decode prog_6_method_8_code 73 = .ok (.iinc 2 1, 3) := by decide +kernel
theorem d_Parser_readSum_76 : decode prog_6_method_8_code 76 = .ok (.goto (-69), 3) := by decide +kernel
theorem d_Parser_readSum_79 : decode prog_6_method_8_code 79 = .ok (.return_, 1) := by decide +kernel
noncomputable def Lc_Parser_readSum_1 (R : Dn) : Xp Bool := cAnd (cAnd (o2 (fun x y => decide (x < y)) (vI 2) (kI (ii 400))) (o1 (fun x => decide (x = 0)) (gI 3 5 (vR 0)))) (cOr (o2 (fun x y => decide (x = y)) (gI 3 8 (vR 0)) (kI (ii 24))) (o2 (fun x y => decide (x = y)) (gI 3 8 (vR 0)) (kI (ii 25))))
noncomputable def Lb_Parser_readSum_1 (R : Dn) : Sm := sBlk 3 (sSeq (sDecl (asV Value.int (gI 3 8 (vR 0)))) (sSeq (sCall (mV 3 D_Parser_take) [asV Value.ref (vR 0), asV Value.int (vI 3)]) (sSeq (sCall (mV 3 R) [asV Value.ref (vR 0), asV Value.int (vI 1)]) (sCall (mV 2 D_Text_emit) [asV Value.ref (gR 3 0 (vR 0)), asV Value.int (iX (o2 (fun x y => decide (x = y)) (vI 3) (kI (ii 24))) (kI (ii 4)) (kI (ii 5))), asV Value.int (kI (ii 0))]))))
noncomputable def Lu_Parser_readSum_1 : Sm := sInc 2 (ii 1)
noncomputable def F_Parser_readSum (R : Dn) : Sm := sSeq (sCall (mV 3 R) [asV Value.ref (vR 0), asV Value.int (vI 1)]) (sSeq (sBlk 2 (sSeq (sDecl (asV Value.int (kI (ii 0)))) (sWh (Lc_Parser_readSum_1 R) (Lb_Parser_readSum_1 R) Lu_Parser_readSum_1))) (sRetV))
theorem okR_Parser_readSum {R : Dn} {lr lv : Nat} (hR : MOK y_Parser_readProduct prog_6_method_9_code 4 none lr 0 0 R) (hl : lr + 1 ≤ lv) (hb : 1 ≤ lv) : MOK y_Parser_readSum prog_6_method_8_code 4 none lv 0 0 (runS [1, 1] (F_Parser_readSum R)) := MOK.of (by decide) (by decide) (show SO (Y_Parser_readSum lv) [(0, 1), (1, 1)] [(0, 1), (1, 1)] 0 80 (([], 0), ([], 0)) (F_Parser_readSum R) from
  (s_seq (sl1 := [(0, 1), (1, 1)]) (p1 := 5) (s_call (p1 := 2) (a_cons (ι := Value.ref) (k0 := 1) (p1 := 1) (fun _ => rfl) (e_aload_n (k0 := 0) d_Parser_readSum_0 rfl rfl) (a_cons (ι := Value.int) (k0 := 1) (p1 := 2) (fun _ => rfl) (e_iload_n (k0 := 1) d_Parser_readSum_1 rfl rfl) a_nil)) (k_virt hR mf_Parser_readProduct ⟨tw_793, tw_12⟩ rfl tw_791 d_Parser_readSum_2 (by show _ ≤ lv; omega) (by decide) (by decide))) (s_seq (sl1 := [(0, 1), (1, 1)]) (p1 := 79) (s_blk (sl1 := [(0, 1), (1, 1), (2, 1)]) (s_seq (sl1 := [(0, 1), (1, 1), (2, 1)]) (p1 := 7) (s_decl (p1 := 6) (e_iconst d_Parser_readSum_5 (by decide)) (t_istore_n d_Parser_readSum_6 rfl (Nat.le_of_ble_eq_true rfl)) rfl) (s_for (pt := 39) (pu := 73) (pf := 79) (pg := 0) (c_and (p1 := 21) (c_and (p1 := 14) (c_icmp_geF (p1 := 8) (p2 := 11) (tg := 79) (e_iload_n (k0 := 2) d_Parser_readSum_7 rfl rfl) (e_sipush d_Parser_readSum_8 (by decide)) d_Parser_readSum_11 rfl) (c_if_neF (p1 := 18) (tg := 79) (e_gI (k0 := 5) (p1 := 15) cf_3 (e_aload_n (k0 := 0) d_Parser_readSum_14 rfl rfl) (by decide) tw_278 d_Parser_readSum_15) d_Parser_readSum_18 rfl)) (c_or (p1 := 30) (c_icmp_eqT (p1 := 25) (p2 := 27) (tg := 39) (e_gI (k0 := 8) (p1 := 22) cf_3 (e_aload_n (k0 := 0) d_Parser_readSum_21 rfl rfl) (by decide) tw_281 d_Parser_readSum_22) (e_bipush d_Parser_readSum_25 (by decide)) d_Parser_readSum_27 rfl) (c_icmp_neF (p1 := 34) (p2 := 36) (tg := 79) (e_gI (k0 := 8) (p1 := 31) cf_3 (e_aload_n (k0 := 0) d_Parser_readSum_30 rfl rfl) (by decide) tw_281 d_Parser_readSum_31) (e_bipush d_Parser_readSum_34 (by decide)) d_Parser_readSum_36 rfl))) (s_blk (sl1 := [(0, 1), (1, 1), (2, 1), (3, 1)]) (s_seq (sl1 := [(0, 1), (1, 1), (2, 1), (3, 1)]) (p1 := 44) (s_decl (p1 := 43) (e_gI (k0 := 8) (p1 := 40) cf_3 (e_aload_n (k0 := 0) d_Parser_readSum_39 rfl rfl) (by decide) tw_281 d_Parser_readSum_40) (t_istore_n d_Parser_readSum_43 rfl (Nat.le_of_ble_eq_true rfl)) rfl) (s_seq (sl1 := [(0, 1), (1, 1), (2, 1), (3, 1)]) (p1 := 49) (s_call (p1 := 46) (a_cons (ι := Value.ref) (k0 := 1) (p1 := 45) (fun _ => rfl) (e_aload_n (k0 := 0) d_Parser_readSum_44 rfl rfl) (a_cons (ι := Value.int) (k0 := 1) (p1 := 46) (fun _ => rfl) (e_iload_n (k0 := 3) d_Parser_readSum_45 rfl rfl) a_nil)) (k_virt ok_Parser_take mf_Parser_take ⟨tw_781, tw_9⟩ rfl tw_779 d_Parser_readSum_46 (by show _ ≤ lv; omega) (by decide) (by decide))) (s_seq (sl1 := [(0, 1), (1, 1), (2, 1), (3, 1)]) (p1 := 54) (s_call (p1 := 51) (a_cons (ι := Value.ref) (k0 := 1) (p1 := 50) (fun _ => rfl) (e_aload_n (k0 := 0) d_Parser_readSum_49 rfl rfl) (a_cons (ι := Value.int) (k0 := 1) (p1 := 51) (fun _ => rfl) (e_iload_n (k0 := 1) d_Parser_readSum_50 rfl rfl) a_nil)) (k_virt hR mf_Parser_readProduct ⟨tw_793, tw_12⟩ rfl tw_791 d_Parser_readSum_51 (by show _ ≤ lv; omega) (by decide) (by decide))) (s_call (p1 := 70) (a_cons (ι := Value.ref) (k0 := 1) (p1 := 58) (fun _ => rfl) (e_gR (k0 := 0) (p1 := 55) cf_3 (e_aload_n (k0 := 0) d_Parser_readSum_54 rfl rfl) (by decide) tw_271 d_Parser_readSum_55) (a_cons (ι := Value.int) (k0 := 1) (p1 := 69) (fun _ => rfl) (e_ite (pt := 64) (p1 := 65) (pf := 68) (c_icmp_neF (p1 := 59) (p2 := 61) (tg := 68) (e_iload_n (k0 := 3) d_Parser_readSum_58 rfl rfl) (e_bipush d_Parser_readSum_59 (by decide)) d_Parser_readSum_61 rfl) (e_iconst d_Parser_readSum_64 (by decide)) d_Parser_readSum_65 rfl (e_iconst d_Parser_readSum_68 (by decide))) (a_cons (ι := Value.int) (k0 := 1) (p1 := 70) (fun _ => rfl) (e_iconst d_Parser_readSum_69 (by decide)) a_nil))) (k_virt ok_Text_emit mf_Text_emit ⟨tw_193, tw_194⟩ rfl tw_803 d_Parser_readSum_70 (by show _ ≤ lv; omega) (by decide) (by decide)))))) rfl) (s_goto (p1 := 76) (s_inc (k0 := 2) d_Parser_readSum_73 rfl rfl (Nat.le_of_ble_eq_true rfl) rfl) d_Parser_readSum_76 rfl))) rfl) (s_retV rfl d_Parser_readSum_79))))
/-! BlinkerCross$Parser.readProduct(I)V -/
abbrev Y_Parser_readProduct (lv : Nat) : Yt := (prog_6_method_9_code, 4, "BlinkerCross$Parser", lv, none, "readProduct")
theorem d_Parser_readProduct_0 : decode prog_6_method_9_code 0 = .ok (.aload_n 0, 1) := by decide +kernel
theorem d_Parser_readProduct_1 : decode prog_6_method_9_code 1 = .ok (.iload_n 1, 1) := by decide +kernel
theorem d_Parser_readProduct_2 : decode prog_6_method_9_code 2 = .ok (.invokevirtual 112, 3) := by decide +kernel
theorem d_Parser_readProduct_5 : decode prog_6_method_9_code 5 = .ok (.iconst 0, 1) := by decide +kernel
theorem d_Parser_readProduct_6 : decode prog_6_method_9_code 6 = .ok (.istore_n 2, 1) := by decide +kernel
theorem d_Parser_readProduct_7 : decode prog_6_method_9_code 7 = .ok (.iload_n 2, 1) := by decide +kernel
theorem d_Parser_readProduct_8 : decode prog_6_method_9_code 8 = .ok (.sipush 400, 3) := by decide +kernel
theorem d_Parser_readProduct_11 : decode prog_6_method_9_code 11 = .ok (.if_icmp .ge 70, 3) := by decide +kernel
theorem d_Parser_readProduct_14 : decode prog_6_method_9_code 14 = .ok (.aload_n 0, 1) := by decide +kernel
theorem d_Parser_readProduct_15 : decode prog_6_method_9_code 15 = .ok (.getfield 41, 3) := by decide +kernel
theorem d_Parser_readProduct_18 : decode prog_6_method_9_code 18 = .ok (.ifCond .ne 63, 3) := by decide +kernel
theorem d_Parser_readProduct_21 : decode prog_6_method_9_code 21 = .ok (.aload_n 0, 1) := by decide +kernel
theorem d_Parser_readProduct_22 : decode prog_6_method_9_code 22 = .ok (.getfield 54, 3) := by decide +kernel
theorem d_Parser_readProduct_25 : decode prog_6_method_9_code 25 = .ok (.bipush 26, 2) := by decide +kernel
theorem d_Parser_readProduct_27 : decode prog_6_method_9_code 27 = .ok (.if_icmp .eq 12, 3) := by decide +kernel
theorem d_Parser_readProduct_30 : decode prog_6_method_9_code 30 = .ok (.aload_n 0, 1) := by decide +kernel
theorem d_Parser_readProduct_31 : decode prog_6_method_9_code 31 = .ok (.getfield 54, 3) := by decide +kernel
theorem d_Parser_readProduct_34 : decode prog_6_method_9_code 34 = .ok (.bipush 27, 2) := by decide +kernel
theorem d_Parser_readProduct_36 : decode prog_6_method_9_code 36 = .ok (.if_icmp .ne 45, 3) := by decide +kernel
theorem d_Parser_readProduct_39 : decode prog_6_method_9_code 39 = .ok (.aload_n 0, 1) := by decide +kernel
theorem d_Parser_readProduct_40 : decode prog_6_method_9_code 40 = .ok (.getfield 54, 3) := by decide +kernel
theorem d_Parser_readProduct_43 : decode prog_6_method_9_code 43 = .ok (.istore_n 3, 1) := by decide +kernel
theorem d_Parser_readProduct_44 : decode prog_6_method_9_code 44 = .ok (.aload_n 0, 1) := by decide +kernel
theorem d_Parser_readProduct_45 : decode prog_6_method_9_code 45 = .ok (.iload_n 3, 1) := by decide +kernel
theorem d_Parser_readProduct_46 : decode prog_6_method_9_code 46 = .ok (.invokevirtual 91, 3) := by decide +kernel
theorem d_Parser_readProduct_49 : decode prog_6_method_9_code 49 = .ok (.aload_n 0, 1) := by decide +kernel
theorem d_Parser_readProduct_50 : decode prog_6_method_9_code 50 = .ok (.iload_n 1, 1) := by decide +kernel
theorem d_Parser_readProduct_51 : decode prog_6_method_9_code 51 = .ok (.invokevirtual 112, 3) := by decide +kernel
theorem d_Parser_readProduct_54 : decode prog_6_method_9_code 54 = .ok (.aload_n 0, 1) := by decide +kernel
theorem d_Parser_readProduct_55 : decode prog_6_method_9_code 55 = .ok (.getfield 12, 3) := by decide +kernel
theorem d_Parser_readProduct_58 : decode prog_6_method_9_code 58 = .ok (.iload_n 3, 1) := by decide +kernel
theorem d_Parser_readProduct_59 : decode prog_6_method_9_code 59 = .ok (.bipush 26, 2) := by decide +kernel
theorem d_Parser_readProduct_61 : decode prog_6_method_9_code 61 = .ok (.if_icmp .ne 8, 3) := by decide +kernel
theorem d_Parser_readProduct_64 : decode prog_6_method_9_code 64 = .ok (.bipush 6, 2) := by decide +kernel
theorem d_Parser_readProduct_66 : decode prog_6_method_9_code 66 = .ok (.goto 5, 3) := by decide +kernel
theorem d_Parser_readProduct_69 : decode prog_6_method_9_code 69 = .ok (.bipush 7, 2) := by decide +kernel
theorem d_Parser_readProduct_71 : decode prog_6_method_9_code 71 = .ok (.iconst 0, 1) := by decide +kernel
theorem d_Parser_readProduct_72 : decode prog_6_method_9_code 72 = .ok (.invokevirtual 103, 3) := by decide +kernel
theorem d_Parser_readProduct_75 : decode prog_6_method_9_code 75 = .ok (.iinc 2 1, 3) := by decide +kernel
theorem d_Parser_readProduct_78 : decode prog_6_method_9_code 78 = .ok (.goto (-71), 3) := by decide +kernel
theorem d_Parser_readProduct_81 : decode prog_6_method_9_code 81 = .ok (.return_, 1) := by decide +kernel
noncomputable def Lc_Parser_readProduct_1 (R : Dn) : Xp Bool := cAnd (cAnd (o2 (fun x y => decide (x < y)) (vI 2) (kI (ii 400))) (o1 (fun x => decide (x = 0)) (gI 3 5 (vR 0)))) (cOr (o2 (fun x y => decide (x = y)) (gI 3 8 (vR 0)) (kI (ii 26))) (o2 (fun x y => decide (x = y)) (gI 3 8 (vR 0)) (kI (ii 27))))
noncomputable def Lb_Parser_readProduct_1 (R : Dn) : Sm := sBlk 3 (sSeq (sDecl (asV Value.int (gI 3 8 (vR 0)))) (sSeq (sCall (mV 3 D_Parser_take) [asV Value.ref (vR 0), asV Value.int (vI 3)]) (sSeq (sCall (mV 3 R) [asV Value.ref (vR 0), asV Value.int (vI 1)]) (sCall (mV 2 D_Text_emit) [asV Value.ref (gR 3 0 (vR 0)), asV Value.int (iX (o2 (fun x y => decide (x = y)) (vI 3) (kI (ii 26))) (kI (ii 6)) (kI (ii 7))), asV Value.int (kI (ii 0))]))))
noncomputable def Lu_Parser_readProduct_1 : Sm := sInc 2 (ii 1)
noncomputable def F_Parser_readProduct (R : Dn) : Sm := sSeq (sCall (mV 3 R) [asV Value.ref (vR 0), asV Value.int (vI 1)]) (sSeq (sBlk 2 (sSeq (sDecl (asV Value.int (kI (ii 0)))) (sWh (Lc_Parser_readProduct_1 R) (Lb_Parser_readProduct_1 R) Lu_Parser_readProduct_1))) (sRetV))
theorem okR_Parser_readProduct {R : Dn} {lr lv : Nat} (hR : MOK y_Parser_readUnit prog_6_method_10_code 2 none lr 0 0 R) (hl : lr + 1 ≤ lv) (hb : 1 ≤ lv) : MOK y_Parser_readProduct prog_6_method_9_code 4 none lv 0 0 (runS [1, 1] (F_Parser_readProduct R)) := MOK.of (by decide) (by decide) (show SO (Y_Parser_readProduct lv) [(0, 1), (1, 1)] [(0, 1), (1, 1)] 0 82 (([], 0), ([], 0)) (F_Parser_readProduct R) from
  (s_seq (sl1 := [(0, 1), (1, 1)]) (p1 := 5) (s_call (p1 := 2) (a_cons (ι := Value.ref) (k0 := 1) (p1 := 1) (fun _ => rfl) (e_aload_n (k0 := 0) d_Parser_readProduct_0 rfl rfl) (a_cons (ι := Value.int) (k0 := 1) (p1 := 2) (fun _ => rfl) (e_iload_n (k0 := 1) d_Parser_readProduct_1 rfl rfl) a_nil)) (k_virt hR mf_Parser_readUnit ⟨tw_797, tw_13⟩ rfl tw_795 d_Parser_readProduct_2 (by show _ ≤ lv; omega) (by decide) (by decide))) (s_seq (sl1 := [(0, 1), (1, 1)]) (p1 := 81) (s_blk (sl1 := [(0, 1), (1, 1), (2, 1)]) (s_seq (sl1 := [(0, 1), (1, 1), (2, 1)]) (p1 := 7) (s_decl (p1 := 6) (e_iconst d_Parser_readProduct_5 (by decide)) (t_istore_n d_Parser_readProduct_6 rfl (Nat.le_of_ble_eq_true rfl)) rfl) (s_for (pt := 39) (pu := 75) (pf := 81) (pg := 0) (c_and (p1 := 21) (c_and (p1 := 14) (c_icmp_geF (p1 := 8) (p2 := 11) (tg := 81) (e_iload_n (k0 := 2) d_Parser_readProduct_7 rfl rfl) (e_sipush d_Parser_readProduct_8 (by decide)) d_Parser_readProduct_11 rfl) (c_if_neF (p1 := 18) (tg := 81) (e_gI (k0 := 5) (p1 := 15) cf_3 (e_aload_n (k0 := 0) d_Parser_readProduct_14 rfl rfl) (by decide) tw_278 d_Parser_readProduct_15) d_Parser_readProduct_18 rfl)) (c_or (p1 := 30) (c_icmp_eqT (p1 := 25) (p2 := 27) (tg := 39) (e_gI (k0 := 8) (p1 := 22) cf_3 (e_aload_n (k0 := 0) d_Parser_readProduct_21 rfl rfl) (by decide) tw_281 d_Parser_readProduct_22) (e_bipush d_Parser_readProduct_25 (by decide)) d_Parser_readProduct_27 rfl) (c_icmp_neF (p1 := 34) (p2 := 36) (tg := 81) (e_gI (k0 := 8) (p1 := 31) cf_3 (e_aload_n (k0 := 0) d_Parser_readProduct_30 rfl rfl) (by decide) tw_281 d_Parser_readProduct_31) (e_bipush d_Parser_readProduct_34 (by decide)) d_Parser_readProduct_36 rfl))) (s_blk (sl1 := [(0, 1), (1, 1), (2, 1), (3, 1)]) (s_seq (sl1 := [(0, 1), (1, 1), (2, 1), (3, 1)]) (p1 := 44) (s_decl (p1 := 43) (e_gI (k0 := 8) (p1 := 40) cf_3 (e_aload_n (k0 := 0) d_Parser_readProduct_39 rfl rfl) (by decide) tw_281 d_Parser_readProduct_40) (t_istore_n d_Parser_readProduct_43 rfl (Nat.le_of_ble_eq_true rfl)) rfl) (s_seq (sl1 := [(0, 1), (1, 1), (2, 1), (3, 1)]) (p1 := 49) (s_call (p1 := 46) (a_cons (ι := Value.ref) (k0 := 1) (p1 := 45) (fun _ => rfl) (e_aload_n (k0 := 0) d_Parser_readProduct_44 rfl rfl) (a_cons (ι := Value.int) (k0 := 1) (p1 := 46) (fun _ => rfl) (e_iload_n (k0 := 3) d_Parser_readProduct_45 rfl rfl) a_nil)) (k_virt ok_Parser_take mf_Parser_take ⟨tw_781, tw_9⟩ rfl tw_779 d_Parser_readProduct_46 (by show _ ≤ lv; omega) (by decide) (by decide))) (s_seq (sl1 := [(0, 1), (1, 1), (2, 1), (3, 1)]) (p1 := 54) (s_call (p1 := 51) (a_cons (ι := Value.ref) (k0 := 1) (p1 := 50) (fun _ => rfl) (e_aload_n (k0 := 0) d_Parser_readProduct_49 rfl rfl) (a_cons (ι := Value.int) (k0 := 1) (p1 := 51) (fun _ => rfl) (e_iload_n (k0 := 1) d_Parser_readProduct_50 rfl rfl) a_nil)) (k_virt hR mf_Parser_readUnit ⟨tw_797, tw_13⟩ rfl tw_795 d_Parser_readProduct_51 (by show _ ≤ lv; omega) (by decide) (by decide))) (s_call (p1 := 72) (a_cons (ι := Value.ref) (k0 := 1) (p1 := 58) (fun _ => rfl) (e_gR (k0 := 0) (p1 := 55) cf_3 (e_aload_n (k0 := 0) d_Parser_readProduct_54 rfl rfl) (by decide) tw_271 d_Parser_readProduct_55) (a_cons (ι := Value.int) (k0 := 1) (p1 := 71) (fun _ => rfl) (e_ite (pt := 64) (p1 := 66) (pf := 69) (c_icmp_neF (p1 := 59) (p2 := 61) (tg := 69) (e_iload_n (k0 := 3) d_Parser_readProduct_58 rfl rfl) (e_bipush d_Parser_readProduct_59 (by decide)) d_Parser_readProduct_61 rfl) (e_bipush d_Parser_readProduct_64 (by decide)) d_Parser_readProduct_66 rfl (e_bipush d_Parser_readProduct_69 (by decide))) (a_cons (ι := Value.int) (k0 := 1) (p1 := 72) (fun _ => rfl) (e_iconst d_Parser_readProduct_71 (by decide)) a_nil))) (k_virt ok_Text_emit mf_Text_emit ⟨tw_193, tw_194⟩ rfl tw_803 d_Parser_readProduct_72 (by show _ ≤ lv; omega) (by decide) (by decide)))))) rfl) (s_goto (p1 := 78) (s_inc (k0 := 2) d_Parser_readProduct_75 rfl rfl (Nat.le_of_ble_eq_true rfl) rfl) d_Parser_readProduct_78 rfl))) rfl) (s_retV rfl d_Parser_readProduct_81))))
/-! BlinkerCross$Parser.readUnit(I)V -/
abbrev Y_Parser_readUnit (lv : Nat) : Yt := (prog_6_method_10_code, 2, "BlinkerCross$Parser", lv, none, "readUnit")
theorem d_Parser_readUnit_0 : decode prog_6_method_10_code 0 = .ok (.aload_n 0, 1) := by decide +kernel
theorem d_Parser_readUnit_1 : decode prog_6_method_10_code 1 = .ok (.getfield 41, 3) := by decide +kernel
theorem d_Parser_readUnit_4 : decode prog_6_method_10_code 4 = .ok (.ifCond .eq 4, 3) := by decide +kernel
theorem d_Parser_readUnit_7 : decode prog_6_method_10_code 7 = .ok (.return_, 1) := by decide +kernel
theorem d_Parser_readUnit_8 : decode prog_6_method_10_code 8 = .ok (.aload_n 0, 1) := by decide +kernel
theorem d_Parser_readUnit_9 : decode prog_6_method_10_code 9 = .ok (.getfield 54, 3) := by decide +kernel
theorem d_Parser_readUnit_12 : decode prog_6_method_10_code 12 = .ok (.bipush 21, 2) := by decide +kernel
theorem d_Parser_readUnit_14 : decode prog_6_method_10_code 14 = .ok (.if_icmp .ne 32, 3) := by decide +kernel
theorem d_Parser_readUnit_17 : decode prog_6_method_10_code 17 = .ok (.aload_n 0, 1) := by decide +kernel
theorem d_Parser_readUnit_18 : decode prog_6_method_10_code 18 = .ok (.getfield 12, 3) := by decide +kernel
theorem d_Parser_readUnit_21 : decode prog_6_method_10_code 21 = .ok (.iconst 0, 1) := by decide +kernel
theorem d_Parser_readUnit_22 : decode prog_6_method_10_code 22 = .ok (.aload_n 0, 1) := by decide +kernel
theorem d_Parser_readUnit_23 : decode prog_6_method_10_code 23 = .ok (.getfield 29, 3) := by decide +kernel
theorem d_Parser_readUnit_26 : decode prog_6_method_10_code 26 = .ok (.aload_n 0, 1) := by decide +kernel
theorem d_Parser_readUnit_27 : decode prog_6_method_10_code 27 = .ok (.getfield 47, 3) := by decide +kernel
theorem d_Parser_readUnit_30 : decode prog_6_method_10_code 30 = .ok (.invokevirtual 115, 3) := by decide +kernel
theorem d_Parser_readUnit_33 : decode prog_6_method_10_code 33 = .ok (.l2i, 1) := by decide +kernel
theorem d_Parser_readUnit_34 : decode prog_6_method_10_code 34 = .ok (.invokevirtual 103, 3) := by decide +kernel
theorem d_Parser_readUnit_37 : decode prog_6_method_10_code 37 = .ok (.aload_n 0, 1) := by decide +kernel
theorem d_Parser_readUnit_38 : decode prog_6_method_10_code 38 = .ok (.bipush 21, 2) := by decide +kernel
theorem d_Parser_readUnit_40 : decode prog_6_method_10_code 40 = .ok (.invokevirtual 91, 3) := by decide +kernel
theorem d_Parser_readUnit_43 : decode prog_6_method_10_code 43 = .ok (.goto 105, 3) := by decide +kernel
theorem d_Parser_readUnit_46 : decode prog_6_method_10_code 46 = .ok (.aload_n 0, 1) := by decide +kernel
theorem d_Parser_readUnit_47 : decode prog_6_method_10_code 47 = .ok (.getfield 54, 3) := by decide +kernel
theorem d_Parser_readUnit_50 : decode prog_6_method_10_code 50 = .ok (.bipush 11, 2) := by decide +kernel
theorem d_Parser_readUnit_52 : decode prog_6_method_10_code 52 = .ok (.if_icmp .lt 38, 3) := by decide +kernel
theorem d_Parser_readUnit_55 : decode prog_6_method_10_code 55 = .ok (.aload_n 0, 1) := by decide +kernel
theorem d_Parser_readUnit_56 : decode prog_6_method_10_code 56 = .ok (.getfield 54, 3) := by decide +kernel
theorem d_Parser_readUnit_59 : decode prog_6_method_10_code 59 = .ok (.bipush 19, 2) := by decide +kernel
theorem d_Parser_readUnit_61 : decode prog_6_method_10_code 61 = .ok (.if_icmp .gt 29, 3) := by decide +kernel
theorem d_Parser_readUnit_64 : decode prog_6_method_10_code 64 = .ok (.aload_n 0, 1) := by decide +kernel
theorem d_Parser_readUnit_65 : decode prog_6_method_10_code 65 = .ok (.getfield 12, 3) := by decide +kernel
theorem d_Parser_readUnit_68 : decode prog_6_method_10_code 68 = .ok (.iconst 1, 1) := by decide +kernel
theorem d_Parser_readUnit_69 : decode prog_6_method_10_code 69 = .ok (.aload_n 0, 1) := by decide +kernel
theorem d_Parser_readUnit_70 : decode prog_6_method_10_code 70 = .ok (.getfield 54, 3) := by decide +kernel
theorem d_Parser_readUnit_73 : decode prog_6_method_10_code 73 = .ok (.bipush 11, 2) := by decide +kernel
theorem d_Parser_readUnit_75 : decode prog_6_method_10_code 75 = .ok (.isub, 1) := by decide +kernel
theorem d_Parser_readUnit_76 : decode prog_6_method_10_code 76 = .ok (.invokevirtual 103, 3) := by decide +kernel
theorem d_Parser_readUnit_79 : decode prog_6_method_10_code 79 = .ok (.aload_n 0, 1) := by decide +kernel
theorem d_Parser_readUnit_80 : decode prog_6_method_10_code 80 = .ok (.aload_n 0, 1) := by decide +kernel
theorem d_Parser_readUnit_81 : decode prog_6_method_10_code 81 = .ok (.getfield 54, 3) := by decide +kernel
theorem d_Parser_readUnit_84 : decode prog_6_method_10_code 84 = .ok (.invokevirtual 91, 3) := by decide +kernel
theorem d_Parser_readUnit_87 : decode prog_6_method_10_code 87 = .ok (.goto 61, 3) := by decide +kernel
theorem d_Parser_readUnit_90 : decode prog_6_method_10_code 90 = .ok (.aload_n 0, 1) := by decide +kernel
theorem d_Parser_readUnit_91 : decode prog_6_method_10_code 91 = .ok (.getfield 54, 3) := by decide +kernel
theorem d_Parser_readUnit_94 : decode prog_6_method_10_code 94 = .ok (.bipush 29, 2) := by decide +kernel
theorem d_Parser_readUnit_96 : decode prog_6_method_10_code 96 = .ok (.if_icmp .eq 15, 3) := by decide +kernel
theorem d_Parser_readUnit_99 : decode prog_6_method_10_code 99 = .ok (.aload_n 0, 1) := by decide +kernel
theorem d_Parser_readUnit_100 : decode prog_6_method_10_code 100 = .ok (.iconst 1, 1) := by decide +kernel
theorem d_Parser_readUnit_101 : decode prog_6_method_10_code 101 = .ok (.aload_n 0, 1) := by decide +kernel
theorem d_Parser_readUnit_102 : decode prog_6_method_10_code 102 = .ok (.getfield 47, 3) := by decide +kernel
theorem d_Parser_readUnit_105 : decode prog_6_method_10_code 105 = .ok (.invokevirtual 87, 3) := by decide +kernel
theorem d_Parser_readUnit_108 : decode prog_6_method_10_code 108 = .ok (.goto 40, 3) := by decide +kernel
theorem d_Parser_readUnit_111 : decode prog_6_method_10_code 111 = .ok (.iload_n 1, 1) := by decide +kernel
theorem d_Parser_readUnit_112 : decode prog_6_method_10_code 112 = .ok (.bipush 6, 2) := by decide +kernel
theorem d_Parser_readUnit_114 : decode prog_6_method_10_code 114 = .ok (.if_icmp .lt 15, 3) := by decide +kernel
theorem d_Parser_readUnit_117 : decode prog_6_method_10_code 117 = .ok (.aload_n 0, 1) := by decide +kernel
theorem d_Parser_readUnit_118 : decode prog_6_method_10_code 118 = .ok (.iconst 2, 1) := by decide +kernel
theorem d_Parser_readUnit_119 : decode prog_6_method_10_code 119 = .ok (.aload_n 0, 1) := by decide +kernel
theorem d_Parser_readUnit_120 : decode prog_6_method_10_code 120 = .ok (.getfield 47, 3) := by decide +kernel
theorem d_Parser_readUnit_123 : decode prog_6_method_10_code 123 = .ok (.invokevirtual 87, 3) := by decide +kernel
theorem d_Parser_readUnit_126 : decode prog_6_method_10_code 126 = .ok (.goto 22, 3) := by decide +kernel
theorem d_Parser_readUnit_129 : decode prog_6_method_10_code 129 = .ok (.aload_n 0, 1) := by decide +kernel
theorem d_Parser_readUnit_130 : decode prog_6_method_10_code 130 = .ok (.bipush 29, 2) := by decide +kernel
theorem d_Parser_readUnit_132 : decode prog_6_method_10_code 132 = .ok (.invokevirtual 91, 3) := by decide +kernel
theorem d_Parser_readUnit_135 : decode prog_6_method_10_code 135 = .ok (.aload_n 0, 1) := by decide +kernel
theorem d_Parser_readUnit_136 : decode prog_6_method_10_code 136 = .ok (.iload_n 1, 1) := by decide +kernel
theorem d_Parser_readUnit_137 : decode prog_6_method_10_code 137 = .ok (.iconst 1, 1) := by decide +kernel
theorem d_Parser_readUnit_138 : decode prog_6_method_10_code 138 = .ok (.iadd, 1) := by decide +kernel
theorem d_Parser_readUnit_139 : decode prog_6_method_10_code 139 = .ok (.invokevirtual 100, 3) := by decide +kernel
theorem d_Parser_readUnit_142 : decode prog_6_method_10_code 142 = .ok (.aload_n 0, 1) := by decide +kernel
theorem d_Parser_readUnit_143 : decode prog_6_method_10_code 143 = .ok (.bipush 30, 2) := by decide +kernel
theorem d_Parser_readUnit_145 : decode prog_6_method_10_code 145 = .ok (.invokevirtual 91, 3) := by decide +kernel
theorem d_Parser_readUnit_148 : decode prog_6_method_10_code 148 = .ok (.return_, 1) := by decide +kernel
noncomputable def F_Parser_readUnit (R : Dn) : Sm := sSeq (sIf (o1 (fun x => decide (x ≠ 0)) (gI 3 5 (vR 0))) (sRetV) (sSkip)) (sSeq (sIf (o2 (fun x y => decide (x = y)) (gI 3 8 (vR 0)) (kI (ii 21))) (sSeq (sCall (mV 2 D_Text_emit) [asV Value.ref (gR 3 0 (vR 0)), asV Value.int (kI (ii 0)), asV Value.int (o1 (fun x => x.toInt32) (cL (mV 1 D_Tape_valueAt) [asV Value.ref (gR 3 2 (vR 0)), asV Value.int (gI 3 7 (vR 0))]))]) (sCall (mV 3 D_Parser_take) [asV Value.ref (vR 0), asV Value.int (kI (ii 21))])) (sIf (cAnd (o2 (fun x y => decide (x ≥ y)) (gI 3 8 (vR 0)) (kI (ii 11))) (o2 (fun x y => decide (x ≤ y)) (gI 3 8 (vR 0)) (kI (ii 19)))) (sSeq (sCall (mV 2 D_Text_emit) [asV Value.ref (gR 3 0 (vR 0)), asV Value.int (kI (ii 1)), asV Value.int (o2 (fun x y => x - y) (gI 3 8 (vR 0)) (kI (ii 11)))]) (sCall (mV 3 D_Parser_take) [asV Value.ref (vR 0), asV Value.int (gI 3 8 (vR 0))])) (sIf (o2 (fun x y => decide (x ≠ y)) (gI 3 8 (vR 0)) (kI (ii 29))) (sCall (mV 3 D_Parser_fail) [asV Value.ref (vR 0), asV Value.int (kI (ii 1)), asV Value.int (gI 3 7 (vR 0))]) (sIf (o2 (fun x y => decide (x ≥ y)) (vI 1) (kI (ii 6))) (sCall (mV 3 D_Parser_fail) [asV Value.ref (vR 0), asV Value.int (kI (ii 2)), asV Value.int (gI 3 7 (vR 0))]) (sSeq (sCall (mV 3 D_Parser_take) [asV Value.ref (vR 0), asV Value.int (kI (ii 29))]) (sSeq (sCall (mV 3 R) [asV Value.ref (vR 0), asV Value.int (o2 (fun x y => x + y) (vI 1) (kI (ii 1)))]) (sCall (mV 3 D_Parser_take) [asV Value.ref (vR 0), asV Value.int (kI (ii 30))]))))))) (sRetV))
theorem okR_Parser_readUnit {R : Dn} {lr lv : Nat} (hR : MOK y_Parser_readSum prog_6_method_8_code 4 none lr 0 0 R) (hl : lr + 1 ≤ lv) (hb : 1 ≤ lv) : MOK y_Parser_readUnit prog_6_method_10_code 2 none lv 0 0 (runS [1, 1] (F_Parser_readUnit R)) := MOK.of (by decide) (by decide) (show SO (Y_Parser_readUnit lv) [(0, 1), (1, 1)] [(0, 1), (1, 1)] 0 149 (([], 0), ([], 0)) (F_Parser_readUnit R) from
  (s_seq (sl1 := [(0, 1), (1, 1)]) (p1 := 8) (s_if (pt := 7) (pf := 8) (c_if_eqF (p1 := 4) (tg := 8) (e_gI (k0 := 5) (p1 := 1) cf_3 (e_aload_n (k0 := 0) d_Parser_readUnit_0 rfl rfl) (by decide) tw_278 d_Parser_readUnit_1) d_Parser_readUnit_4 rfl) (s_retV rfl d_Parser_readUnit_7) s_skip) (s_seq (sl1 := [(0, 1), (1, 1)]) (p1 := 148) (s_if (pt := 17) (pf := 46) (p1 := 148) (c_icmp_neF (p1 := 12) (p2 := 14) (tg := 46) (e_gI (k0 := 8) (p1 := 9) cf_3 (e_aload_n (k0 := 0) d_Parser_readUnit_8 rfl rfl) (by decide) tw_281 d_Parser_readUnit_9) (e_bipush d_Parser_readUnit_12 (by decide)) d_Parser_readUnit_14 rfl) (s_seq (sl1 := [(0, 1), (1, 1)]) (p1 := 37) (s_call (p1 := 34) (a_cons (ι := Value.ref) (k0 := 1) (p1 := 21) (fun _ => rfl) (e_gR (k0 := 0) (p1 := 18) cf_3 (e_aload_n (k0 := 0) d_Parser_readUnit_17 rfl rfl) (by decide) tw_271 d_Parser_readUnit_18) (a_cons (ι := Value.int) (k0 := 1) (p1 := 22) (fun _ => rfl) (e_iconst d_Parser_readUnit_21 (by decide)) (a_cons (ι := Value.int) (k0 := 1) (p1 := 34) (fun _ => rfl) (e_l2i (p1 := 33) (e_cL (p1 := 30) (a_cons (ι := Value.ref) (k0 := 1) (p1 := 26) (fun _ => rfl) (e_gR (k0 := 2) (p1 := 23) cf_3 (e_aload_n (k0 := 0) d_Parser_readUnit_22 rfl rfl) (by decide) tw_275 d_Parser_readUnit_23) (a_cons (ι := Value.int) (k0 := 1) (p1 := 30) (fun _ => rfl) (e_gI (k0 := 7) (p1 := 27) cf_3 (e_aload_n (k0 := 0) d_Parser_readUnit_26 rfl rfl) (by decide) tw_280 d_Parser_readUnit_27) a_nil)) (k_virt ok_Tape_valueAt mf_Tape_valueAt ⟨tw_800, tw_801⟩ rfl tw_799 d_Parser_readUnit_30 (by show _ ≤ lv; omega) (by decide) (by decide))) d_Parser_readUnit_33) a_nil))) (k_virt ok_Text_emit mf_Text_emit ⟨tw_193, tw_194⟩ rfl tw_803 d_Parser_readUnit_34 (by show _ ≤ lv; omega) (by decide) (by decide))) (s_goto (p1 := 43) (s_call (p1 := 40) (a_cons (ι := Value.ref) (k0 := 1) (p1 := 38) (fun _ => rfl) (e_aload_n (k0 := 0) d_Parser_readUnit_37 rfl rfl) (a_cons (ι := Value.int) (k0 := 1) (p1 := 40) (fun _ => rfl) (e_bipush d_Parser_readUnit_38 (by decide)) a_nil)) (k_virt ok_Parser_take mf_Parser_take ⟨tw_781, tw_9⟩ rfl tw_779 d_Parser_readUnit_40 (by show _ ≤ lv; omega) (by decide) (by decide))) d_Parser_readUnit_43 rfl)) (s_if (pt := 64) (pf := 90) (p1 := 148) (c_and (p1 := 55) (c_icmp_ltF (p1 := 50) (p2 := 52) (tg := 90) (e_gI (k0 := 8) (p1 := 47) cf_3 (e_aload_n (k0 := 0) d_Parser_readUnit_46 rfl rfl) (by decide) tw_281 d_Parser_readUnit_47) (e_bipush d_Parser_readUnit_50 (by decide)) d_Parser_readUnit_52 rfl) (c_icmp_gtF (p1 := 59) (p2 := 61) (tg := 90) (e_gI (k0 := 8) (p1 := 56) cf_3 (e_aload_n (k0 := 0) d_Parser_readUnit_55 rfl rfl) (by decide) tw_281 d_Parser_readUnit_56) (e_bipush d_Parser_readUnit_59 (by decide)) d_Parser_readUnit_61 rfl)) (s_seq (sl1 := [(0, 1), (1, 1)]) (p1 := 79) (s_call (p1 := 76) (a_cons (ι := Value.ref) (k0 := 1) (p1 := 68) (fun _ => rfl) (e_gR (k0 := 0) (p1 := 65) cf_3 (e_aload_n (k0 := 0) d_Parser_readUnit_64 rfl rfl) (by decide) tw_271 d_Parser_readUnit_65) (a_cons (ι := Value.int) (k0 := 1) (p1 := 69) (fun _ => rfl) (e_iconst d_Parser_readUnit_68 (by decide)) (a_cons (ι := Value.int) (k0 := 1) (p1 := 76) (fun _ => rfl) (e_isub (p1 := 73) (p2 := 75) (e_gI (k0 := 8) (p1 := 70) cf_3 (e_aload_n (k0 := 0) d_Parser_readUnit_69 rfl rfl) (by decide) tw_281 d_Parser_readUnit_70) (e_bipush d_Parser_readUnit_73 (by decide)) d_Parser_readUnit_75) a_nil))) (k_virt ok_Text_emit mf_Text_emit ⟨tw_193, tw_194⟩ rfl tw_803 d_Parser_readUnit_76 (by show _ ≤ lv; omega) (by decide) (by decide))) (s_goto (p1 := 87) (s_call (p1 := 84) (a_cons (ι := Value.ref) (k0 := 1) (p1 := 80) (fun _ => rfl) (e_aload_n (k0 := 0) d_Parser_readUnit_79 rfl rfl) (a_cons (ι := Value.int) (k0 := 1) (p1 := 84) (fun _ => rfl) (e_gI (k0 := 8) (p1 := 81) cf_3 (e_aload_n (k0 := 0) d_Parser_readUnit_80 rfl rfl) (by decide) tw_281 d_Parser_readUnit_81) a_nil)) (k_virt ok_Parser_take mf_Parser_take ⟨tw_781, tw_9⟩ rfl tw_779 d_Parser_readUnit_84 (by show _ ≤ lv; omega) (by decide) (by decide))) d_Parser_readUnit_87 rfl)) (s_if (pt := 99) (pf := 111) (p1 := 148) (c_icmp_eqF (p1 := 94) (p2 := 96) (tg := 111) (e_gI (k0 := 8) (p1 := 91) cf_3 (e_aload_n (k0 := 0) d_Parser_readUnit_90 rfl rfl) (by decide) tw_281 d_Parser_readUnit_91) (e_bipush d_Parser_readUnit_94 (by decide)) d_Parser_readUnit_96 rfl) (s_goto (p1 := 108) (s_call (p1 := 105) (a_cons (ι := Value.ref) (k0 := 1) (p1 := 100) (fun _ => rfl) (e_aload_n (k0 := 0) d_Parser_readUnit_99 rfl rfl) (a_cons (ι := Value.int) (k0 := 1) (p1 := 101) (fun _ => rfl) (e_iconst d_Parser_readUnit_100 (by decide)) (a_cons (ι := Value.int) (k0 := 1) (p1 := 105) (fun _ => rfl) (e_gI (k0 := 7) (p1 := 102) cf_3 (e_aload_n (k0 := 0) d_Parser_readUnit_101 rfl rfl) (by decide) tw_280 d_Parser_readUnit_102) a_nil))) (k_virt ok_Parser_fail mf_Parser_fail ⟨tw_777, tw_8⟩ rfl tw_775 d_Parser_readUnit_105 (by show _ ≤ lv; omega) (by decide) (by decide))) d_Parser_readUnit_108 rfl) (s_if (pt := 117) (pf := 129) (p1 := 148) (c_icmp_ltF (p1 := 112) (p2 := 114) (tg := 129) (e_iload_n (k0 := 1) d_Parser_readUnit_111 rfl rfl) (e_bipush d_Parser_readUnit_112 (by decide)) d_Parser_readUnit_114 rfl) (s_goto (p1 := 126) (s_call (p1 := 123) (a_cons (ι := Value.ref) (k0 := 1) (p1 := 118) (fun _ => rfl) (e_aload_n (k0 := 0) d_Parser_readUnit_117 rfl rfl) (a_cons (ι := Value.int) (k0 := 1) (p1 := 119) (fun _ => rfl) (e_iconst d_Parser_readUnit_118 (by decide)) (a_cons (ι := Value.int) (k0 := 1) (p1 := 123) (fun _ => rfl) (e_gI (k0 := 7) (p1 := 120) cf_3 (e_aload_n (k0 := 0) d_Parser_readUnit_119 rfl rfl) (by decide) tw_280 d_Parser_readUnit_120) a_nil))) (k_virt ok_Parser_fail mf_Parser_fail ⟨tw_777, tw_8⟩ rfl tw_775 d_Parser_readUnit_123 (by show _ ≤ lv; omega) (by decide) (by decide))) d_Parser_readUnit_126 rfl) (s_seq (sl1 := [(0, 1), (1, 1)]) (p1 := 135) (s_call (p1 := 132) (a_cons (ι := Value.ref) (k0 := 1) (p1 := 130) (fun _ => rfl) (e_aload_n (k0 := 0) d_Parser_readUnit_129 rfl rfl) (a_cons (ι := Value.int) (k0 := 1) (p1 := 132) (fun _ => rfl) (e_bipush d_Parser_readUnit_130 (by decide)) a_nil)) (k_virt ok_Parser_take mf_Parser_take ⟨tw_781, tw_9⟩ rfl tw_779 d_Parser_readUnit_132 (by show _ ≤ lv; omega) (by decide) (by decide))) (s_seq (sl1 := [(0, 1), (1, 1)]) (p1 := 142) (s_call (p1 := 139) (a_cons (ι := Value.ref) (k0 := 1) (p1 := 136) (fun _ => rfl) (e_aload_n (k0 := 0) d_Parser_readUnit_135 rfl rfl) (a_cons (ι := Value.int) (k0 := 1) (p1 := 139) (fun _ => rfl) (e_iadd (p1 := 137) (p2 := 138) (e_iload_n (k0 := 1) d_Parser_readUnit_136 rfl rfl) (e_iconst d_Parser_readUnit_137 (by decide)) d_Parser_readUnit_138) a_nil)) (k_virt hR mf_Parser_readSum ⟨tw_789, tw_11⟩ rfl tw_787 d_Parser_readUnit_139 (by show _ ≤ lv; omega) (by decide) (by decide))) (s_call (p1 := 145) (a_cons (ι := Value.ref) (k0 := 1) (p1 := 143) (fun _ => rfl) (e_aload_n (k0 := 0) d_Parser_readUnit_142 rfl rfl) (a_cons (ι := Value.int) (k0 := 1) (p1 := 145) (fun _ => rfl) (e_bipush d_Parser_readUnit_143 (by decide)) a_nil)) (k_virt ok_Parser_take mf_Parser_take ⟨tw_781, tw_9⟩ rfl tw_779 d_Parser_readUnit_145 (by show _ ≤ lv; omega) (by decide) (by decide))))))))) (s_retV rfl d_Parser_readUnit_148))))
noncomputable def U_Parser_readUnit : Nat → Dn
  | 0 => fun _ _ => none
  | n + 1 => runS [1, 1] (F_Parser_readUnit (runS [1, 1] (F_Parser_readSum (runS [1, 1] (F_Parser_readProduct (U_Parser_readUnit n))))))
theorem okU_Parser_readUnit : ∀ n, MOK y_Parser_readUnit prog_6_method_10_code 2 none (1 + 3 * n) 0 0 (U_Parser_readUnit n)
  | 0 => fun _ _ _ _ _ _ _ _ _ _ _ _ h => by cases h
  | n + 1 => okR_Parser_readUnit (lr := 1 + 3 * n + 2) (okR_Parser_readSum (lr := 1 + 3 * n + 1) (okR_Parser_readProduct (okU_Parser_readUnit n) (by omega) (by omega)) (by omega) (by omega)) (by omega) (by omega)
noncomputable def D_Parser_readSum : Dn := runS [1, 1] (F_Parser_readSum (runS [1, 1] (F_Parser_readProduct (U_Parser_readUnit 8))))
theorem ok_Parser_readSum : MOK y_Parser_readSum prog_6_method_8_code 4 none 31 0 0 D_Parser_readSum := okR_Parser_readSum (lr := 26) (okR_Parser_readProduct (lr := 25) (okU_Parser_readUnit 8) (by omega) (by omega)) (by omega) (by omega)
/-! BlinkerCross$Parser.readLaw(I)V -/
abbrev y_Parser_readLaw : MethodName := ⟨"BlinkerCross$Parser", "readLaw", "(I)V"⟩
abbrev Y_Parser_readLaw : Yt := (prog_6_method_7_code, 4, "BlinkerCross$Parser", 32, none, "readLaw")
theorem d_Parser_readLaw_0 : decode prog_6_method_7_code 0 = .ok (.aload_n 0, 1) := by decide +kernel
theorem d_Parser_readLaw_1 : decode prog_6_method_7_code 1 = .ok (.getfield 12, 3) := by decide +kernel
theorem d_Parser_readLaw_4 : decode prog_6_method_7_code 4 = .ok (.getfield 94, 3) := by decide +kernel
theorem d_Parser_readLaw_7 : decode prog_6_method_7_code 7 = .ok (.iload_n 1, 1) := by decide +kernel
theorem d_Parser_readLaw_8 : decode prog_6_method_7_code 8 = .ok (.aload_n 0, 1) := by decide +kernel
theorem d_Parser_readLaw_9 : decode prog_6_method_7_code 9 = .ok (.getfield 12, 3) := by decide +kernel
theorem d_Parser_readLaw_12 : decode prog_6_method_7_code 12 = .ok (.getfield 97, 3) := by decide +kernel
theorem d_Parser_readLaw_15 : decode prog_6_method_7_code 15 = .ok (.iastore, 1) := by decide +kernel
theorem d_Parser_readLaw_16 : decode prog_6_method_7_code 16 = .ok (.aload_n 0, 1) := by decide +kernel
theorem d_Parser_readLaw_17 : decode prog_6_method_7_code 17 = .ok (.iconst 3, 1) := by decide +kernel
theorem d_Parser_readLaw_18 : decode prog_6_method_7_code 18 = .ok (.iload_n 1, 1) := by decide +kernel
theorem d_Parser_readLaw_19 : decode prog_6_method_7_code 19 = .ok (.iadd, 1) := by decide +kernel
theorem d_Parser_readLaw_20 : decode prog_6_method_7_code 20 = .ok (.invokevirtual 91, 3) := by decide +kernel
theorem d_Parser_readLaw_23 : decode prog_6_method_7_code 23 = .ok (.aload_n 0, 1) := by decide +kernel
theorem d_Parser_readLaw_24 : decode prog_6_method_7_code 24 = .ok (.bipush 23, 2) := by decide +kernel
theorem d_Parser_readLaw_26 : decode prog_6_method_7_code 26 = .ok (.invokevirtual 91, 3) := by decide +kernel
theorem d_Parser_readLaw_29 : decode prog_6_method_7_code 29 = .ok (.iconst 0, 1) := by decide +kernel
theorem d_Parser_readLaw_30 : decode prog_6_method_7_code 30 = .ok (.istore_n 2, 1) := by decide +kernel
theorem d_Parser_readLaw_31 : decode prog_6_method_7_code 31 = .ok (.iload_n 2, 1) := by decide +kernel
theorem d_Parser_readLaw_32 : decode prog_6_method_7_code 32 = .ok (.iconst 4, 1) := by decide +kernel
theorem d_Parser_readLaw_33 : decode prog_6_method_7_code 33 = .ok (.if_icmp .ge 98, 3) := by decide +kernel
theorem d_Parser_readLaw_36 : decode prog_6_method_7_code 36 = .ok (.aload_n 0, 1) := by decide +kernel
theorem d_Parser_readLaw_37 : decode prog_6_method_7_code 37 = .ok (.getfield 41, 3) := by decide +kernel
theorem d_Parser_readLaw_40 : decode prog_6_method_7_code 40 = .ok (.ifCond .ne 91, 3) := by decide +kernel
theorem d_Parser_readLaw_43 : decode prog_6_method_7_code 43 = .ok (.aload_n 0, 1) := by decide +kernel
theorem d_Parser_readLaw_44 : decode prog_6_method_7_code 44 = .ok (.getfield 54, 3) := by decide +kernel
theorem d_Parser_readLaw_47 : decode prog_6_method_7_code 47 = .ok (.bipush 8, 2) := by decide +kernel
theorem d_Parser_readLaw_49 : decode prog_6_method_7_code 49 = .ok (.if_icmp .ne 82, 3) := by decide +kernel
theorem d_Parser_readLaw_52 : decode prog_6_method_7_code 52 = .ok (.aload_n 0, 1) := by decide +kernel
theorem d_Parser_readLaw_53 : decode prog_6_method_7_code 53 = .ok (.bipush 8, 2) := by decide +kernel
theorem d_Parser_readLaw_55 : decode prog_6_method_7_code 55 = .ok (.invokevirtual 91, 3) := by decide +kernel
theorem d_Parser_readLaw_58 : decode prog_6_method_7_code 58 = .ok (.aload_n 0, 1) := by decide +kernel
theorem d_Parser_readLaw_59 : decode prog_6_method_7_code 59 = .ok (.iconst 0, 1) := by decide +kernel
theorem d_Parser_readLaw_60 : decode prog_6_method_7_code 60 = .ok (.invokevirtual 100, 3) := by decide +kernel
theorem d_Parser_readLaw_63 : decode prog_6_method_7_code 63 = .ok (.aload_n 0, 1) := by decide +kernel
theorem d_Parser_readLaw_64 : decode prog_6_method_7_code 64 = .ok (.bipush 28, 2) := by decide +kernel
theorem d_Parser_readLaw_66 : decode prog_6_method_7_code 66 = .ok (.invokevirtual 91, 3) := by decide +kernel
theorem d_Parser_readLaw_69 : decode prog_6_method_7_code 69 = .ok (.aload_n 0, 1) := by decide +kernel
theorem d_Parser_readLaw_70 : decode prog_6_method_7_code 70 = .ok (.iconst 0, 1) := by decide +kernel
theorem d_Parser_readLaw_71 : decode prog_6_method_7_code 71 = .ok (.invokevirtual 100, 3) := by decide +kernel
theorem d_Parser_readLaw_74 : decode prog_6_method_7_code 74 = .ok (.aload_n 0, 1) := by decide +kernel
theorem d_Parser_readLaw_75 : decode prog_6_method_7_code 75 = .ok (.getfield 12, 3) := by decide +kernel
theorem d_Parser_readLaw_78 : decode prog_6_method_7_code 78 = .ok (.getfield 97, 3) := by decide +kernel
theorem d_Parser_readLaw_81 : decode prog_6_method_7_code 81 = .ok (.istore_n 3, 1) := by decide +kernel
theorem d_Parser_readLaw_82 : decode prog_6_method_7_code 82 = .ok (.aload_n 0, 1) := by decide +kernel
theorem d_Parser_readLaw_83 : decode prog_6_method_7_code 83 = .ok (.getfield 12, 3) := by decide +kernel
theorem d_Parser_readLaw_86 : decode prog_6_method_7_code 86 = .ok (.iconst 2, 1) := by decide +kernel
theorem d_Parser_readLaw_87 : decode prog_6_method_7_code 87 = .ok (.iconst 0, 1) := by decide +kernel
theorem d_Parser_readLaw_88 : decode prog_6_method_7_code 88 = .ok (.invokevirtual 103, 3) := by decide +kernel
theorem d_Parser_readLaw_91 : decode prog_6_method_7_code 91 = .ok (.aload_n 0, 1) := by decide +kernel
theorem d_Parser_readLaw_92 : decode prog_6_method_7_code 92 = .ok (.bipush 9, 2) := by decide +kernel
theorem d_Parser_readLaw_94 : decode prog_6_method_7_code 94 = .ok (.invokevirtual 91, 3) := by decide +kernel
theorem d_Parser_readLaw_97 : decode prog_6_method_7_code 97 = .ok (.aload_n 0, 1) := by decide +kernel
theorem d_Parser_readLaw_98 : decode prog_6_method_7_code 98 = .ok (.iconst 0, 1) := by decide +kernel
theorem d_Parser_readLaw_99 : decode prog_6_method_7_code 99 = .ok (.invokevirtual 100, 3) := by decide +kernel
theorem d_Parser_readLaw_102 : decode prog_6_method_7_code 102 = .ok (.aload_n 0, 1) := by decide +kernel
theorem d_Parser_readLaw_103 : decode prog_6_method_7_code 103 = .ok (.getfield 12, 3) := by decide +kernel
theorem d_Parser_readLaw_106 : decode prog_6_method_7_code 106 = .ok (.iconst 3, 1) := by decide +kernel
theorem d_Parser_readLaw_107 : decode prog_6_method_7_code 107 = .ok (.iconst 0, 1) := by decide +kernel
theorem d_Parser_readLaw_108 : decode prog_6_method_7_code 108 = .ok (.invokevirtual 103, 3) := by decide +kernel
theorem d_Parser_readLaw_111 : decode prog_6_method_7_code 111 = .ok (.aload_n 0, 1) := by decide +kernel
theorem d_Parser_readLaw_112 : decode prog_6_method_7_code 112 = .ok (.bipush 10, 2) := by decide +kernel
theorem d_Parser_readLaw_114 : decode prog_6_method_7_code 114 = .ok (.invokevirtual 91, 3) := by decide +kernel
theorem d_Parser_readLaw_117 : decode prog_6_method_7_code 117 = .ok (.aload_n 0, 1) := by decide +kernel
theorem d_Parser_readLaw_118 : decode prog_6_method_7_code 118 = .ok (.getfield 12, 3) := by decide +kernel
theorem d_Parser_readLaw_121 : decode prog_6_method_7_code 121 = .ok (.iload_n 3, 1) := by decide +kernel
theorem d_Parser_readLaw_122 : decode prog_6_method_7_code 122 = .ok (.invokevirtual 106, 3) := by decide +kernel
theorem d_Parser_readLaw_125 : decode prog_6_method_7_code 125 = .ok (.iinc 2 1, 3) := by decide +kernel
theorem d_Parser_readLaw_128 : decode prog_6_method_7_code 128 = .ok (.goto (-97), 3) := by decide +kernel
theorem d_Parser_readLaw_131 : decode prog_6_method_7_code 131 = .ok (.aload_n 0, 1) := by decide +kernel
theorem d_Parser_readLaw_132 : decode prog_6_method_7_code 132 = .ok (.getfield 41, 3) := by decide +kernel
theorem d_Parser_readLaw_135 : decode prog_6_method_7_code 135 = .ok (.ifCond .ne 21, 3) := by decide +kernel
theorem d_Parser_readLaw_138 : decode prog_6_method_7_code 138 = .ok (.aload_n 0, 1) := by decide +kernel
theorem d_Parser_readLaw_139 : decode prog_6_method_7_code 139 = .ok (.getfield 54, 3) := by decide +kernel
theorem d_Parser_readLaw_142 : decode prog_6_method_7_code 142 = .ok (.bipush 8, 2) := by decide +kernel
theorem d_Parser_readLaw_144 : decode prog_6_method_7_code 144 = .ok (.if_icmp .ne 12, 3) := by decide +kernel
theorem d_Parser_readLaw_147 : decode prog_6_method_7_code 147 = .ok (.aload_n 0, 1) := by decide +kernel
theorem d_Parser_readLaw_148 : decode prog_6_method_7_code 148 = .ok (.iconst 2, 1) := by decide +kernel
theorem d_Parser_readLaw_149 : decode prog_6_method_7_code 149 = .ok (.aload_n 0, 1) := by decide +kernel
theorem d_Parser_readLaw_150 : decode prog_6_method_7_code 150 = .ok (.getfield 47, 3) := by decide +kernel
theorem d_Parser_readLaw_153 : decode prog_6_method_7_code 153 = .ok (.invokevirtual 87, 3) := by decide +kernel
theorem d_Parser_readLaw_156 : decode prog_6_method_7_code 156 = .ok (.aload_n 0, 1) := by decide +kernel
theorem d_Parser_readLaw_157 : decode prog_6_method_7_code 157 = .ok (.iconst 0, 1) := by decide +kernel
theorem d_Parser_readLaw_158 : decode prog_6_method_7_code 158 = .ok (.invokevirtual 100, 3) := by decide +kernel
theorem d_Parser_readLaw_161 : decode prog_6_method_7_code 161 = .ok (.aload_n 0, 1) := by decide +kernel
theorem d_Parser_readLaw_162 : decode prog_6_method_7_code 162 = .ok (.getfield 12, 3) := by decide +kernel
theorem d_Parser_readLaw_165 : decode prog_6_method_7_code 165 = .ok (.iconst 3, 1) := by decide +kernel
theorem d_Parser_readLaw_166 : decode prog_6_method_7_code 166 = .ok (.iconst 0, 1) := by decide +kernel
theorem d_Parser_readLaw_167 : decode prog_6_method_7_code 167 = .ok (.invokevirtual 103, 3) := by decide +kernel
theorem d_Parser_readLaw_170 : decode prog_6_method_7_code 170 = .ok (.aload_n 0, 1) := by decide +kernel
theorem d_Parser_readLaw_171 : decode prog_6_method_7_code 171 = .ok (.bipush 22, 2) := by decide +kernel
theorem d_Parser_readLaw_173 : decode prog_6_method_7_code 173 = .ok (.invokevirtual 91, 3) := by decide +kernel
theorem d_Parser_readLaw_176 : decode prog_6_method_7_code 176 = .ok (.return_, 1) := by decide +kernel
noncomputable def Lc_Parser_readLaw_1 : Xp Bool := cAnd (cAnd (o2 (fun x y => decide (x < y)) (vI 2) (kI (ii 4))) (o1 (fun x => decide (x = 0)) (gI 3 5 (vR 0)))) (o2 (fun x y => decide (x = y)) (gI 3 8 (vR 0)) (kI (ii 8)))
noncomputable def Lb_Parser_readLaw_1 : Sm := sBlk 3 (sSeq (sCall (mV 3 D_Parser_take) [asV Value.ref (vR 0), asV Value.int (kI (ii 8))]) (sSeq (sCall (mV 3 D_Parser_readSum) [asV Value.ref (vR 0), asV Value.int (kI (ii 0))]) (sSeq (sCall (mV 3 D_Parser_take) [asV Value.ref (vR 0), asV Value.int (kI (ii 28))]) (sSeq (sCall (mV 3 D_Parser_readSum) [asV Value.ref (vR 0), asV Value.int (kI (ii 0))]) (sSeq (sDecl (asV Value.int (gI 2 10 (gR 3 0 (vR 0))))) (sSeq (sCall (mV 2 D_Text_emit) [asV Value.ref (gR 3 0 (vR 0)), asV Value.int (kI (ii 2)), asV Value.int (kI (ii 0))]) (sSeq (sCall (mV 3 D_Parser_take) [asV Value.ref (vR 0), asV Value.int (kI (ii 9))]) (sSeq (sCall (mV 3 D_Parser_readSum) [asV Value.ref (vR 0), asV Value.int (kI (ii 0))]) (sSeq (sCall (mV 2 D_Text_emit) [asV Value.ref (gR 3 0 (vR 0)), asV Value.int (kI (ii 3)), asV Value.int (kI (ii 0))]) (sSeq (sCall (mV 3 D_Parser_take) [asV Value.ref (vR 0), asV Value.int (kI (ii 10))]) (sCall (mV 2 D_Text_aimHere) [asV Value.ref (gR 3 0 (vR 0)), asV Value.int (vI 3)])))))))))))
noncomputable def Lu_Parser_readLaw_1 : Sm := sInc 2 (ii 1)
noncomputable def F_Parser_readLaw : Sm := sSeq (sAst 0 (gR 2 7 (gR 3 0 (vR 0))) (vI 1) (gI 2 10 (gR 3 0 (vR 0)))) (sSeq (sCall (mV 3 D_Parser_take) [asV Value.ref (vR 0), asV Value.int (o2 (fun x y => x + y) (kI (ii 3)) (vI 1))]) (sSeq (sCall (mV 3 D_Parser_take) [asV Value.ref (vR 0), asV Value.int (kI (ii 23))]) (sSeq (sBlk 2 (sSeq (sDecl (asV Value.int (kI (ii 0)))) (sWh (Lc_Parser_readLaw_1) (Lb_Parser_readLaw_1) Lu_Parser_readLaw_1))) (sSeq (sIf (cAnd (o1 (fun x => decide (x = 0)) (gI 3 5 (vR 0))) (o2 (fun x y => decide (x = y)) (gI 3 8 (vR 0)) (kI (ii 8)))) (sCall (mV 3 D_Parser_fail) [asV Value.ref (vR 0), asV Value.int (kI (ii 2)), asV Value.int (gI 3 7 (vR 0))]) (sSkip)) (sSeq (sCall (mV 3 D_Parser_readSum) [asV Value.ref (vR 0), asV Value.int (kI (ii 0))]) (sSeq (sCall (mV 2 D_Text_emit) [asV Value.ref (gR 3 0 (vR 0)), asV Value.int (kI (ii 3)), asV Value.int (kI (ii 0))]) (sSeq (sCall (mV 3 D_Parser_take) [asV Value.ref (vR 0), asV Value.int (kI (ii 22))]) (sRetV))))))))
theorem mf_Parser_readLaw : Mf y_Parser_readLaw prog_6_method_7_code 4 none 1 := ⟨tw_786, tw_125, by decide +kernel⟩
noncomputable def D_Parser_readLaw : Dn := runS [1, 1] F_Parser_readLaw
theorem ok_Parser_readLaw : MOK y_Parser_readLaw prog_6_method_7_code 4 none 32 0 0 D_Parser_readLaw := MOK.of (by decide) (by decide) (show SO Y_Parser_readLaw [(0, 1), (1, 1)] [(0, 1), (1, 1)] 0 177 (([], 0), ([], 0)) F_Parser_readLaw from
  (s_seq (sl1 := [(0, 1), (1, 1)]) (p1 := 16) (s_ast (p1 := 7) (p2 := 8) (p3 := 15) (e_gR (k0 := 7) (p1 := 4) cf_2 (e_gR (k0 := 0) (p1 := 1) cf_3 (e_aload_n (k0 := 0) d_Parser_readLaw_0 rfl rfl) (by decide) tw_271 d_Parser_readLaw_1) (by decide) tw_231 d_Parser_readLaw_4) (e_iload_n (k0 := 1) d_Parser_readLaw_7 rfl rfl) (e_gI (k0 := 10) (p1 := 12) cf_2 (e_gR (k0 := 0) (p1 := 9) cf_3 (e_aload_n (k0 := 0) d_Parser_readLaw_8 rfl rfl) (by decide) tw_271 d_Parser_readLaw_9) (by decide) tw_238 d_Parser_readLaw_12) (as_i d_Parser_readLaw_15)) (s_seq (sl1 := [(0, 1), (1, 1)]) (p1 := 23) (s_call (p1 := 20) (a_cons (ι := Value.ref) (k0 := 1) (p1 := 17) (fun _ => rfl) (e_aload_n (k0 := 0) d_Parser_readLaw_16 rfl rfl) (a_cons (ι := Value.int) (k0 := 1) (p1 := 20) (fun _ => rfl) (e_iadd (p1 := 18) (p2 := 19) (e_iconst d_Parser_readLaw_17 (by decide)) (e_iload_n (k0 := 1) d_Parser_readLaw_18 rfl rfl) d_Parser_readLaw_19) a_nil)) (k_virt ok_Parser_take mf_Parser_take ⟨tw_781, tw_9⟩ rfl tw_779 d_Parser_readLaw_20 (by decide) (by decide) (by decide))) (s_seq (sl1 := [(0, 1), (1, 1)]) (p1 := 29) (s_call (p1 := 26) (a_cons (ι := Value.ref) (k0 := 1) (p1 := 24) (fun _ => rfl) (e_aload_n (k0 := 0) d_Parser_readLaw_23 rfl rfl) (a_cons (ι := Value.int) (k0 := 1) (p1 := 26) (fun _ => rfl) (e_bipush d_Parser_readLaw_24 (by decide)) a_nil)) (k_virt ok_Parser_take mf_Parser_take ⟨tw_781, tw_9⟩ rfl tw_779 d_Parser_readLaw_26 (by decide) (by decide) (by decide))) (s_seq (sl1 := [(0, 1), (1, 1)]) (p1 := 131) (s_blk (sl1 := [(0, 1), (1, 1), (2, 1)]) (s_seq (sl1 := [(0, 1), (1, 1), (2, 1)]) (p1 := 31) (s_decl (p1 := 30) (e_iconst d_Parser_readLaw_29 (by decide)) (t_istore_n d_Parser_readLaw_30 rfl (by decide)) rfl) (s_for (pt := 52) (pu := 125) (pf := 131) (pg := 0) (c_and (p1 := 43) (c_and (p1 := 36) (c_icmp_geF (p1 := 32) (p2 := 33) (tg := 131) (e_iload_n (k0 := 2) d_Parser_readLaw_31 rfl rfl) (e_iconst d_Parser_readLaw_32 (by decide)) d_Parser_readLaw_33 rfl) (c_if_neF (p1 := 40) (tg := 131) (e_gI (k0 := 5) (p1 := 37) cf_3 (e_aload_n (k0 := 0) d_Parser_readLaw_36 rfl rfl) (by decide) tw_278 d_Parser_readLaw_37) d_Parser_readLaw_40 rfl)) (c_icmp_neF (p1 := 47) (p2 := 49) (tg := 131) (e_gI (k0 := 8) (p1 := 44) cf_3 (e_aload_n (k0 := 0) d_Parser_readLaw_43 rfl rfl) (by decide) tw_281 d_Parser_readLaw_44) (e_bipush d_Parser_readLaw_47 (by decide)) d_Parser_readLaw_49 rfl)) (s_blk (sl1 := [(0, 1), (1, 1), (2, 1), (3, 1)]) (s_seq (sl1 := [(0, 1), (1, 1), (2, 1)]) (p1 := 58) (s_call (p1 := 55) (a_cons (ι := Value.ref) (k0 := 1) (p1 := 53) (fun _ => rfl) (e_aload_n (k0 := 0) d_Parser_readLaw_52 rfl rfl) (a_cons (ι := Value.int) (k0 := 1) (p1 := 55) (fun _ => rfl) (e_bipush d_Parser_readLaw_53 (by decide)) a_nil)) (k_virt ok_Parser_take mf_Parser_take ⟨tw_781, tw_9⟩ rfl tw_779 d_Parser_readLaw_55 (by decide) (by decide) (by decide))) (s_seq (sl1 := [(0, 1), (1, 1), (2, 1)]) (p1 := 63) (s_call (p1 := 60) (a_cons (ι := Value.ref) (k0 := 1) (p1 := 59) (fun _ => rfl) (e_aload_n (k0 := 0) d_Parser_readLaw_58 rfl rfl) (a_cons (ι := Value.int) (k0 := 1) (p1 := 60) (fun _ => rfl) (e_iconst d_Parser_readLaw_59 (by decide)) a_nil)) (k_virt ok_Parser_readSum mf_Parser_readSum ⟨tw_789, tw_11⟩ rfl tw_787 d_Parser_readLaw_60 (by decide) (by decide) (by decide))) (s_seq (sl1 := [(0, 1), (1, 1), (2, 1)]) (p1 := 69) (s_call (p1 := 66) (a_cons (ι := Value.ref) (k0 := 1) (p1 := 64) (fun _ => rfl) (e_aload_n (k0 := 0) d_Parser_readLaw_63 rfl rfl) (a_cons (ι := Value.int) (k0 := 1) (p1 := 66) (fun _ => rfl) (e_bipush d_Parser_readLaw_64 (by decide)) a_nil)) (k_virt ok_Parser_take mf_Parser_take ⟨tw_781, tw_9⟩ rfl tw_779 d_Parser_readLaw_66 (by decide) (by decide) (by decide))) (s_seq (sl1 := [(0, 1), (1, 1), (2, 1)]) (p1 := 74) (s_call (p1 := 71) (a_cons (ι := Value.ref) (k0 := 1) (p1 := 70) (fun _ => rfl) (e_aload_n (k0 := 0) d_Parser_readLaw_69 rfl rfl) (a_cons (ι := Value.int) (k0 := 1) (p1 := 71) (fun _ => rfl) (e_iconst d_Parser_readLaw_70 (by decide)) a_nil)) (k_virt ok_Parser_readSum mf_Parser_readSum ⟨tw_789, tw_11⟩ rfl tw_787 d_Parser_readLaw_71 (by decide) (by decide) (by decide))) (s_seq (sl1 := [(0, 1), (1, 1), (2, 1), (3, 1)]) (p1 := 82) (s_decl (p1 := 81) (e_gI (k0 := 10) (p1 := 78) cf_2 (e_gR (k0 := 0) (p1 := 75) cf_3 (e_aload_n (k0 := 0) d_Parser_readLaw_74 rfl rfl) (by decide) tw_271 d_Parser_readLaw_75) (by decide) tw_238 d_Parser_readLaw_78) (t_istore_n d_Parser_readLaw_81 rfl (by decide)) rfl) (s_seq (sl1 := [(0, 1), (1, 1), (2, 1), (3, 1)]) (p1 := 91) (s_call (p1 := 88) (a_cons (ι := Value.ref) (k0 := 1) (p1 := 86) (fun _ => rfl) (e_gR (k0 := 0) (p1 := 83) cf_3 (e_aload_n (k0 := 0) d_Parser_readLaw_82 rfl rfl) (by decide) tw_271 d_Parser_readLaw_83) (a_cons (ι := Value.int) (k0 := 1) (p1 := 87) (fun _ => rfl) (e_iconst d_Parser_readLaw_86 (by decide)) (a_cons (ι := Value.int) (k0 := 1) (p1 := 88) (fun _ => rfl) (e_iconst d_Parser_readLaw_87 (by decide)) a_nil))) (k_virt ok_Text_emit mf_Text_emit ⟨tw_193, tw_194⟩ rfl tw_803 d_Parser_readLaw_88 (by decide) (by decide) (by decide))) (s_seq (sl1 := [(0, 1), (1, 1), (2, 1), (3, 1)]) (p1 := 97) (s_call (p1 := 94) (a_cons (ι := Value.ref) (k0 := 1) (p1 := 92) (fun _ => rfl) (e_aload_n (k0 := 0) d_Parser_readLaw_91 rfl rfl) (a_cons (ι := Value.int) (k0 := 1) (p1 := 94) (fun _ => rfl) (e_bipush d_Parser_readLaw_92 (by decide)) a_nil)) (k_virt ok_Parser_take mf_Parser_take ⟨tw_781, tw_9⟩ rfl tw_779 d_Parser_readLaw_94 (by decide) (by decide) (by decide))) (s_seq (sl1 := [(0, 1), (1, 1), (2, 1), (3, 1)]) (p1 := 102) (s_call (p1 := 99) (a_cons (ι := Value.ref) (k0 := 1) (p1 := 98) (fun _ => rfl) (e_aload_n (k0 := 0) d_Parser_readLaw_97 rfl rfl) (a_cons (ι := Value.int) (k0 := 1) (p1 := 99) (fun _ => rfl) (e_iconst d_Parser_readLaw_98 (by decide)) a_nil)) (k_virt ok_Parser_readSum mf_Parser_readSum ⟨tw_789, tw_11⟩ rfl tw_787 d_Parser_readLaw_99 (by decide) (by decide) (by decide))) (s_seq (sl1 := [(0, 1), (1, 1), (2, 1), (3, 1)]) (p1 := 111) (s_call (p1 := 108) (a_cons (ι := Value.ref) (k0 := 1) (p1 := 106) (fun _ => rfl) (e_gR (k0 := 0) (p1 := 103) cf_3 (e_aload_n (k0 := 0) d_Parser_readLaw_102 rfl rfl) (by decide) tw_271 d_Parser_readLaw_103) (a_cons (ι := Value.int) (k0 := 1) (p1 := 107) (fun _ => rfl) (e_iconst d_Parser_readLaw_106 (by decide)) (a_cons (ι := Value.int) (k0 := 1) (p1 := 108) (fun _ => rfl) (e_iconst d_Parser_readLaw_107 (by decide)) a_nil))) (k_virt ok_Text_emit mf_Text_emit ⟨tw_193, tw_194⟩ rfl tw_803 d_Parser_readLaw_108 (by decide) (by decide) (by decide))) (s_seq (sl1 := [(0, 1), (1, 1), (2, 1), (3, 1)]) (p1 := 117) (s_call (p1 := 114) (a_cons (ι := Value.ref) (k0 := 1) (p1 := 112) (fun _ => rfl) (e_aload_n (k0 := 0) d_Parser_readLaw_111 rfl rfl) (a_cons (ι := Value.int) (k0 := 1) (p1 := 114) (fun _ => rfl) (e_bipush d_Parser_readLaw_112 (by decide)) a_nil)) (k_virt ok_Parser_take mf_Parser_take ⟨tw_781, tw_9⟩ rfl tw_779 d_Parser_readLaw_114 (by decide) (by decide) (by decide))) (s_call (p1 := 122) (a_cons (ι := Value.ref) (k0 := 1) (p1 := 121) (fun _ => rfl) (e_gR (k0 := 0) (p1 := 118) cf_3 (e_aload_n (k0 := 0) d_Parser_readLaw_117 rfl rfl) (by decide) tw_271 d_Parser_readLaw_118) (a_cons (ι := Value.int) (k0 := 1) (p1 := 122) (fun _ => rfl) (e_iload_n (k0 := 3) d_Parser_readLaw_121 rfl rfl) a_nil)) (k_virt ok_Text_aimHere mf_Text_aimHere ⟨tw_805, tw_806⟩ rfl tw_804 d_Parser_readLaw_122 (by decide) (by decide) (by decide))))))))))))) rfl) (s_goto (p1 := 128) (s_inc (k0 := 2) d_Parser_readLaw_125 rfl rfl (Nat.le_of_ble_eq_true rfl) rfl) d_Parser_readLaw_128 rfl))) rfl) (s_seq (sl1 := [(0, 1), (1, 1)]) (p1 := 156) (s_if (pt := 147) (pf := 156) (c_and (p1 := 138) (c_if_neF (p1 := 135) (tg := 156) (e_gI (k0 := 5) (p1 := 132) cf_3 (e_aload_n (k0 := 0) d_Parser_readLaw_131 rfl rfl) (by decide) tw_278 d_Parser_readLaw_132) d_Parser_readLaw_135 rfl) (c_icmp_neF (p1 := 142) (p2 := 144) (tg := 156) (e_gI (k0 := 8) (p1 := 139) cf_3 (e_aload_n (k0 := 0) d_Parser_readLaw_138 rfl rfl) (by decide) tw_281 d_Parser_readLaw_139) (e_bipush d_Parser_readLaw_142 (by decide)) d_Parser_readLaw_144 rfl)) (s_call (p1 := 153) (a_cons (ι := Value.ref) (k0 := 1) (p1 := 148) (fun _ => rfl) (e_aload_n (k0 := 0) d_Parser_readLaw_147 rfl rfl) (a_cons (ι := Value.int) (k0 := 1) (p1 := 149) (fun _ => rfl) (e_iconst d_Parser_readLaw_148 (by decide)) (a_cons (ι := Value.int) (k0 := 1) (p1 := 153) (fun _ => rfl) (e_gI (k0 := 7) (p1 := 150) cf_3 (e_aload_n (k0 := 0) d_Parser_readLaw_149 rfl rfl) (by decide) tw_280 d_Parser_readLaw_150) a_nil))) (k_virt ok_Parser_fail mf_Parser_fail ⟨tw_777, tw_8⟩ rfl tw_775 d_Parser_readLaw_153 (by decide) (by decide) (by decide))) s_skip) (s_seq (sl1 := [(0, 1), (1, 1)]) (p1 := 161) (s_call (p1 := 158) (a_cons (ι := Value.ref) (k0 := 1) (p1 := 157) (fun _ => rfl) (e_aload_n (k0 := 0) d_Parser_readLaw_156 rfl rfl) (a_cons (ι := Value.int) (k0 := 1) (p1 := 158) (fun _ => rfl) (e_iconst d_Parser_readLaw_157 (by decide)) a_nil)) (k_virt ok_Parser_readSum mf_Parser_readSum ⟨tw_789, tw_11⟩ rfl tw_787 d_Parser_readLaw_158 (by decide) (by decide) (by decide))) (s_seq (sl1 := [(0, 1), (1, 1)]) (p1 := 170) (s_call (p1 := 167) (a_cons (ι := Value.ref) (k0 := 1) (p1 := 165) (fun _ => rfl) (e_gR (k0 := 0) (p1 := 162) cf_3 (e_aload_n (k0 := 0) d_Parser_readLaw_161 rfl rfl) (by decide) tw_271 d_Parser_readLaw_162) (a_cons (ι := Value.int) (k0 := 1) (p1 := 166) (fun _ => rfl) (e_iconst d_Parser_readLaw_165 (by decide)) (a_cons (ι := Value.int) (k0 := 1) (p1 := 167) (fun _ => rfl) (e_iconst d_Parser_readLaw_166 (by decide)) a_nil))) (k_virt ok_Text_emit mf_Text_emit ⟨tw_193, tw_194⟩ rfl tw_803 d_Parser_readLaw_167 (by decide) (by decide) (by decide))) (s_seq (sl1 := [(0, 1), (1, 1)]) (p1 := 176) (s_call (p1 := 173) (a_cons (ι := Value.ref) (k0 := 1) (p1 := 171) (fun _ => rfl) (e_aload_n (k0 := 0) d_Parser_readLaw_170 rfl rfl) (a_cons (ι := Value.int) (k0 := 1) (p1 := 173) (fun _ => rfl) (e_bipush d_Parser_readLaw_171 (by decide)) a_nil)) (k_virt ok_Parser_take mf_Parser_take ⟨tw_781, tw_9⟩ rfl tw_779 d_Parser_readLaw_173 (by decide) (by decide) (by decide))) (s_retV rfl d_Parser_readLaw_176))))))))))
/-! BlinkerCross$Parser.readTell()V -/
abbrev y_Parser_readTell : MethodName := ⟨"BlinkerCross$Parser", "readTell", "()V"⟩
abbrev Y_Parser_readTell : Yt := (prog_6_method_5_code, 1, "BlinkerCross$Parser", 33, none, "readTell")
theorem d_Parser_readTell_0 : decode prog_6_method_5_code 0 = .ok (.aload_n 0, 1) := by decide +kernel
theorem d_Parser_readTell_1 : decode prog_6_method_5_code 1 = .ok (.getfield 54, 3) := by decide +kernel
theorem d_Parser_readTell_4 : decode prog_6_method_5_code 4 = .ok (.ifCond .ne 36, 3) := by decide +kernel
theorem d_Parser_readTell_7 : decode prog_6_method_5_code 7 = .ok (.aload_n 0, 1) := by decide +kernel
theorem d_Parser_readTell_8 : decode prog_6_method_5_code 8 = .ok (.dup, 1) := by decide +kernel
theorem d_Parser_readTell_9 : decode prog_6_method_5_code 9 = .ok (.getfield 57, 3) := by decide +kernel
theorem d_Parser_readTell_12 : decode prog_6_method_5_code 12 = .ok (.iconst 1, 1) := by decide +kernel
theorem d_Parser_readTell_13 : decode prog_6_method_5_code 13 = .ok (.iadd, 1) := by decide +kernel
theorem d_Parser_readTell_14 : decode prog_6_method_5_code 14 = .ok (.putfield 57, 3) := by decide +kernel
theorem d_Parser_readTell_17 : decode prog_6_method_5_code 17 = .ok (.aload_n 0, 1) := by decide +kernel
theorem d_Parser_readTell_18 : decode prog_6_method_5_code 18 = .ok (.iconst 0, 1) := by decide +kernel
theorem d_Parser_readTell_19 : decode prog_6_method_5_code 19 = .ok (.iconst 1, 1) := by decide +kernel
theorem d_Parser_readTell_20 : decode prog_6_method_5_code 20 = .ok (.aload_n 0, 1) := by decide +kernel
theorem d_Parser_readTell_21 : decode prog_6_method_5_code 21 = .ok (.getfield 57, 3) := by decide +kernel
theorem d_Parser_readTell_24 : decode prog_6_method_5_code 24 = .ok (.bipush 6, 2) := by decide +kernel
theorem d_Parser_readTell_26 : decode prog_6_method_5_code 26 = .ok (.if_icmp .le 7, 3) := by decide +kernel
theorem d_Parser_readTell_29 : decode prog_6_method_5_code 29 = .ok (.iconst 1, 1) := by decide +kernel
theorem d_Parser_readTell_30 : decode prog_6_method_5_code 30 = .ok (.goto 4, 3) := by decide +kernel
theorem d_Parser_readTell_33 : decode prog_6_method_5_code 33 = .ok (.iconst 0, 1) := by decide +kernel
theorem d_Parser_readTell_34 : decode prog_6_method_5_code 34 = .ok (.invokevirtual 80, 3) := by decide +kernel
theorem d_Parser_readTell_37 : decode prog_6_method_5_code 37 = .ok (.goto 143, 3) := by decide +kernel
theorem d_Parser_readTell_40 : decode prog_6_method_5_code 40 = .ok (.aload_n 0, 1) := by decide +kernel
theorem d_Parser_readTell_41 : decode prog_6_method_5_code 41 = .ok (.getfield 54, 3) := by decide +kernel
theorem d_Parser_readTell_44 : decode prog_6_method_5_code 44 = .ok (.iconst 1, 1) := by decide +kernel
theorem d_Parser_readTell_45 : decode prog_6_method_5_code 45 = .ok (.if_icmp .ne 35, 3) := by decide +kernel
theorem d_Parser_readTell_48 : decode prog_6_method_5_code 48 = .ok (.aload_n 0, 1) := by decide +kernel
theorem d_Parser_readTell_49 : decode prog_6_method_5_code 49 = .ok (.dup, 1) := by decide +kernel
theorem d_Parser_readTell_50 : decode prog_6_method_5_code 50 = .ok (.getfield 60, 3) := by decide +kernel
theorem d_Parser_readTell_53 : decode prog_6_method_5_code 53 = .ok (.iconst 1, 1) := by decide +kernel
theorem d_Parser_readTell_54 : decode prog_6_method_5_code 54 = .ok (.iadd, 1) := by decide +kernel
theorem d_Parser_readTell_55 : decode prog_6_method_5_code 55 = .ok (.putfield 60, 3) := by decide +kernel
theorem d_Parser_readTell_58 : decode prog_6_method_5_code 58 = .ok (.aload_n 0, 1) := by decide +kernel
theorem d_Parser_readTell_59 : decode prog_6_method_5_code 59 = .ok (.iconst 1, 1) := by decide +kernel
theorem d_Parser_readTell_60 : decode prog_6_method_5_code 60 = .ok (.iconst 2, 1) := by decide +kernel
theorem d_Parser_readTell_61 : decode prog_6_method_5_code 61 = .ok (.aload_n 0, 1) := by decide +kernel
theorem d_Parser_readTell_62 : decode prog_6_method_5_code 62 = .ok (.getfield 60, 3) := by decide +kernel
theorem d_Parser_readTell_65 : decode prog_6_method_5_code 65 = .ok (.iconst 5, 1) := by decide +kernel
theorem d_Parser_readTell_66 : decode prog_6_method_5_code 66 = .ok (.if_icmp .le 7, 3) := by decide +kernel
theorem d_Parser_readTell_69 : decode prog_6_method_5_code 69 = .ok (.iconst 1, 1) := by decide +kernel
theorem d_Parser_readTell_70 : decode prog_6_method_5_code 70 = .ok (.goto 4, 3) := by decide +kernel
theorem d_Parser_readTell_73 : decode prog_6_method_5_code 73 = .ok (.iconst 0, 1) := by decide +kernel
theorem d_Parser_readTell_74 : decode prog_6_method_5_code 74 = .ok (.invokevirtual 80, 3) := by decide +kernel
theorem d_Parser_readTell_77 : decode prog_6_method_5_code 77 = .ok (.goto 103, 3) := by decide +kernel
theorem d_Parser_readTell_80 : decode prog_6_method_5_code 80 = .ok (.aload_n 0, 1) := by decide +kernel
theorem d_Parser_readTell_81 : decode prog_6_method_5_code 81 = .ok (.getfield 54, 3) := by decide +kernel
theorem d_Parser_readTell_84 : decode prog_6_method_5_code 84 = .ok (.iconst 2, 1) := by decide +kernel
theorem d_Parser_readTell_85 : decode prog_6_method_5_code 85 = .ok (.if_icmp .ne 36, 3) := by decide +kernel
theorem d_Parser_readTell_88 : decode prog_6_method_5_code 88 = .ok (.aload_n 0, 1) := by decide +kernel
theorem d_Parser_readTell_89 : decode prog_6_method_5_code 89 = .ok (.dup, 1) := by decide +kernel
theorem d_Parser_readTell_90 : decode prog_6_method_5_code 90 = .ok (.getfield 63, 3) := by decide +kernel
theorem d_Parser_readTell_93 : decode prog_6_method_5_code 93 = .ok (.iconst 1, 1) := by decide +kernel
theorem d_Parser_readTell_94 : decode prog_6_method_5_code 94 = .ok (.iadd, 1) := by decide +kernel
theorem d_Parser_readTell_95 : decode prog_6_method_5_code 95 = .ok (.putfield 63, 3) := by decide +kernel
theorem d_Parser_readTell_98 : decode prog_6_method_5_code 98 = .ok (.aload_n 0, 1) := by decide +kernel
theorem d_Parser_readTell_99 : decode prog_6_method_5_code 99 = .ok (.iconst 2, 1) := by decide +kernel
theorem d_Parser_readTell_100 : decode prog_6_method_5_code 100 = .ok (.iconst 2, 1) := by decide +kernel
theorem d_Parser_readTell_101 : decode prog_6_method_5_code 101 = .ok (.aload_n 0, 1) := by decide +kernel
theorem d_Parser_readTell_102 : decode prog_6_method_5_code 102 = .ok (.getfield 63, 3) := by decide +kernel
theorem d_Parser_readTell_105 : decode prog_6_method_5_code 105 = .ok (.bipush 30, 2) := by decide +kernel
theorem d_Parser_readTell_107 : decode prog_6_method_5_code 107 = .ok (.if_icmp .le 7, 3) := by decide +kernel
theorem d_Parser_readTell_110 : decode prog_6_method_5_code 110 = .ok (.iconst 1, 1) := by decide +kernel
theorem d_Parser_readTell_111 : decode prog_6_method_5_code 111 = .ok (.goto 4, 3) := by decide +kernel
theorem d_Parser_readTell_114 : decode prog_6_method_5_code 114 = .ok (.iconst 0, 1) := by decide +kernel
theorem d_Parser_readTell_115 : decode prog_6_method_5_code 115 = .ok (.invokevirtual 80, 3) := by decide +kernel
theorem d_Parser_readTell_118 : decode prog_6_method_5_code 118 = .ok (.goto 62, 3) := by decide +kernel
theorem d_Parser_readTell_121 : decode prog_6_method_5_code 121 = .ok (.aload_n 0, 1) := by decide +kernel
theorem d_Parser_readTell_122 : decode prog_6_method_5_code 122 = .ok (.getfield 54, 3) := by decide +kernel
theorem d_Parser_readTell_125 : decode prog_6_method_5_code 125 = .ok (.bipush 7, 2) := by decide +kernel
theorem d_Parser_readTell_127 : decode prog_6_method_5_code 127 = .ok (.if_icmp .ne 14, 3) := by decide +kernel
theorem d_Parser_readTell_130 : decode prog_6_method_5_code 130 = .ok (.aload_n 0, 1) := by decide +kernel
theorem d_Parser_readTell_131 : decode prog_6_method_5_code 131 = .ok (.bipush 7, 2) := by decide +kernel
theorem d_Parser_readTell_133 : decode prog_6_method_5_code 133 = .ok (.iconst 0, 1) := by decide +kernel
theorem d_Parser_readTell_134 : decode prog_6_method_5_code 134 = .ok (.iconst 0, 1) := by decide +kernel
theorem d_Parser_readTell_135 : decode prog_6_method_5_code 135 = .ok (.invokevirtual 80, 3) := by decide +kernel
theorem d_Parser_readTell_138 : decode prog_6_method_5_code 138 = .ok (.goto 42, 3) := by decide +kernel
theorem d_Parser_readTell_141 : decode prog_6_method_5_code 141 = .ok (.aload_n 0, 1) := by decide +kernel
theorem d_Parser_readTell_142 : decode prog_6_method_5_code 142 = .ok (.getfield 54, 3) := by decide +kernel
theorem d_Parser_readTell_145 : decode prog_6_method_5_code 145 = .ok (.iconst 3, 1) := by decide +kernel
theorem d_Parser_readTell_146 : decode prog_6_method_5_code 146 = .ok (.if_icmp .lt 25, 3) := by decide +kernel
theorem d_Parser_readTell_149 : decode prog_6_method_5_code 149 = .ok (.aload_n 0, 1) := by decide +kernel
theorem d_Parser_readTell_150 : decode prog_6_method_5_code 150 = .ok (.getfield 54, 3) := by decide +kernel
theorem d_Parser_readTell_153 : decode prog_6_method_5_code 153 = .ok (.bipush 6, 2) := by decide +kernel
theorem d_Parser_readTell_155 : decode prog_6_method_5_code 155 = .ok (.if_icmp .gt 16, 3) := by decide +kernel
theorem d_Parser_readTell_158 : decode prog_6_method_5_code 158 = .ok (.aload_n 0, 1) := by decide +kernel
theorem d_Parser_readTell_159 : decode prog_6_method_5_code 159 = .ok (.aload_n 0, 1) := by decide +kernel
theorem d_Parser_readTell_160 : decode prog_6_method_5_code 160 = .ok (.getfield 54, 3) := by decide +kernel
theorem d_Parser_readTell_163 : decode prog_6_method_5_code 163 = .ok (.iconst 3, 1) := by decide +kernel
theorem d_Parser_readTell_164 : decode prog_6_method_5_code 164 = .ok (.isub, 1) := by decide +kernel
theorem d_Parser_readTell_165 : decode prog_6_method_5_code 165 = .ok (.invokevirtual 84, 3) := by decide +kernel
theorem d_Parser_readTell_168 : decode prog_6_method_5_code 168 = .ok (.goto 12, 3) := by decide +kernel
theorem d_Parser_readTell_171 : decode prog_6_method_5_code 171 = .ok (.aload_n 0, 1) := by decide +kernel
theorem d_Parser_readTell_172 : decode prog_6_method_5_code 172 = .ok (.iconst 1, 1) := by decide +kernel
theorem d_Parser_readTell_173 : decode prog_6_method_5_code 173 = .ok (.aload_n 0, 1) := by decide +kernel
theorem d_Parser_readTell_174 : decode prog_6_method_5_code 174 = .ok (.getfield 47, 3) := by decide +kernel
theorem d_Parser_readTell_177 : decode prog_6_method_5_code 177 = .ok (.invokevirtual 87, 3) := by decide +kernel
theorem d_Parser_readTell_180 : decode prog_6_method_5_code 180 = .ok (.return_, 1) := by decide +kernel
noncomputable def F_Parser_readTell : Sm := sSeq (sIf (o1 (fun x => decide (x = 0)) (gI 3 8 (vR 0))) (sSeq (sFop 3 9 (vR 0) (fun x y => x + y) (kI (ii 1))) (sCall (mV 3 D_Parser_readNamed) [asV Value.ref (vR 0), asV Value.int (kI (ii 0)), asV Value.int (kI (ii 1)), asV Value.int (bX (o2 (fun x y => decide (x > y)) (gI 3 9 (vR 0)) (kI (ii 6))))])) (sIf (o2 (fun x y => decide (x = y)) (gI 3 8 (vR 0)) (kI (ii 1))) (sSeq (sFop 3 10 (vR 0) (fun x y => x + y) (kI (ii 1))) (sCall (mV 3 D_Parser_readNamed) [asV Value.ref (vR 0), asV Value.int (kI (ii 1)), asV Value.int (kI (ii 2)), asV Value.int (bX (o2 (fun x y => decide (x > y)) (gI 3 10 (vR 0)) (kI (ii 5))))])) (sIf (o2 (fun x y => decide (x = y)) (gI 3 8 (vR 0)) (kI (ii 2))) (sSeq (sFop 3 11 (vR 0) (fun x y => x + y) (kI (ii 1))) (sCall (mV 3 D_Parser_readNamed) [asV Value.ref (vR 0), asV Value.int (kI (ii 2)), asV Value.int (kI (ii 2)), asV Value.int (bX (o2 (fun x y => decide (x > y)) (gI 3 11 (vR 0)) (kI (ii 30))))])) (sIf (o2 (fun x y => decide (x = y)) (gI 3 8 (vR 0)) (kI (ii 7))) (sCall (mV 3 D_Parser_readNamed) [asV Value.ref (vR 0), asV Value.int (kI (ii 7)), asV Value.int (kI (ii 0)), asV Value.int (kI (ii 0))]) (sIf (cAnd (o2 (fun x y => decide (x ≥ y)) (gI 3 8 (vR 0)) (kI (ii 3))) (o2 (fun x y => decide (x ≤ y)) (gI 3 8 (vR 0)) (kI (ii 6)))) (sCall (mV 3 D_Parser_readLaw) [asV Value.ref (vR 0), asV Value.int (o2 (fun x y => x - y) (gI 3 8 (vR 0)) (kI (ii 3)))]) (sCall (mV 3 D_Parser_fail) [asV Value.ref (vR 0), asV Value.int (kI (ii 1)), asV Value.int (gI 3 7 (vR 0))])))))) (sRetV)
theorem mf_Parser_readTell : Mf y_Parser_readTell prog_6_method_5_code 1 none 0 := ⟨tw_770, tw_125, by decide +kernel⟩
noncomputable def D_Parser_readTell : Dn := runS [1] F_Parser_readTell
theorem ok_Parser_readTell : MOK y_Parser_readTell prog_6_method_5_code 1 none 33 0 0 D_Parser_readTell := MOK.of (by decide) (by decide) (show SO Y_Parser_readTell [(0, 1)] [(0, 1)] 0 181 (([], 0), ([], 0)) F_Parser_readTell from
  (s_seq (sl1 := [(0, 1)]) (p1 := 180) (s_if (pt := 7) (pf := 40) (p1 := 180) (c_if_neF (p1 := 4) (tg := 40) (e_gI (k0 := 8) (p1 := 1) cf_3 (e_aload_n (k0 := 0) d_Parser_readTell_0 rfl rfl) (by decide) tw_281 d_Parser_readTell_1) d_Parser_readTell_4 rfl) (s_seq (sl1 := [(0, 1)]) (p1 := 17) (s_fop (k0 := 9) (p1 := 8) (p2 := 13) cf_3 (e_aload_n (k0 := 0) d_Parser_readTell_7 rfl rfl) d_Parser_readTell_8 d_Parser_readTell_9 (e_iconst d_Parser_readTell_12 (by decide)) (op_iadd d_Parser_readTell_13) (by decide) rfl tw_282 tw_282 rfl d_Parser_readTell_14) (s_goto (p1 := 37) (s_call (p1 := 34) (a_cons (ι := Value.ref) (k0 := 1) (p1 := 18) (fun _ => rfl) (e_aload_n (k0 := 0) d_Parser_readTell_17 rfl rfl) (a_cons (ι := Value.int) (k0 := 1) (p1 := 19) (fun _ => rfl) (e_iconst d_Parser_readTell_18 (by decide)) (a_cons (ι := Value.int) (k0 := 1) (p1 := 20) (fun _ => rfl) (e_iconst d_Parser_readTell_19 (by decide)) (a_cons (ι := Value.int) (k0 := 1) (p1 := 34) (fun _ => rfl) (e_bool (pt := 29) (pf := 33) (c_icmp_leF (p1 := 24) (p2 := 26) (tg := 33) (e_gI (k0 := 9) (p1 := 21) cf_3 (e_aload_n (k0 := 0) d_Parser_readTell_20 rfl rfl) (by decide) tw_282 d_Parser_readTell_21) (e_bipush d_Parser_readTell_24 (by decide)) d_Parser_readTell_26 rfl) d_Parser_readTell_29 d_Parser_readTell_30 rfl d_Parser_readTell_33 rfl) a_nil)))) (k_virt ok_Parser_readNamed mf_Parser_readNamed ⟨tw_773, tw_7⟩ rfl tw_771 d_Parser_readTell_34 (by decide) (by decide) (by decide))) d_Parser_readTell_37 rfl)) (s_if (pt := 48) (pf := 80) (p1 := 180) (c_icmp_neF (p1 := 44) (p2 := 45) (tg := 80) (e_gI (k0 := 8) (p1 := 41) cf_3 (e_aload_n (k0 := 0) d_Parser_readTell_40 rfl rfl) (by decide) tw_281 d_Parser_readTell_41) (e_iconst d_Parser_readTell_44 (by decide)) d_Parser_readTell_45 rfl) (s_seq (sl1 := [(0, 1)]) (p1 := 58) (s_fop (k0 := 10) (p1 := 49) (p2 := 54) cf_3 (e_aload_n (k0 := 0) d_Parser_readTell_48 rfl rfl) d_Parser_readTell_49 d_Parser_readTell_50 (e_iconst d_Parser_readTell_53 (by decide)) (op_iadd d_Parser_readTell_54) (by decide) rfl tw_283 tw_283 rfl d_Parser_readTell_55) (s_goto (p1 := 77) (s_call (p1 := 74) (a_cons (ι := Value.ref) (k0 := 1) (p1 := 59) (fun _ => rfl) (e_aload_n (k0 := 0) d_Parser_readTell_58 rfl rfl) (a_cons (ι := Value.int) (k0 := 1) (p1 := 60) (fun _ => rfl) (e_iconst d_Parser_readTell_59 (by decide)) (a_cons (ι := Value.int) (k0 := 1) (p1 := 61) (fun _ => rfl) (e_iconst d_Parser_readTell_60 (by decide)) (a_cons (ι := Value.int) (k0 := 1) (p1 := 74) (fun _ => rfl) (e_bool (pt := 69) (pf := 73) (c_icmp_leF (p1 := 65) (p2 := 66) (tg := 73) (e_gI (k0 := 10) (p1 := 62) cf_3 (e_aload_n (k0 := 0) d_Parser_readTell_61 rfl rfl) (by decide) tw_283 d_Parser_readTell_62) (e_iconst d_Parser_readTell_65 (by decide)) d_Parser_readTell_66 rfl) d_Parser_readTell_69 d_Parser_readTell_70 rfl d_Parser_readTell_73 rfl) a_nil)))) (k_virt ok_Parser_readNamed mf_Parser_readNamed ⟨tw_773, tw_7⟩ rfl tw_771 d_Parser_readTell_74 (by decide) (by decide) (by decide))) d_Parser_readTell_77 rfl)) (s_if (pt := 88) (pf := 121) (p1 := 180) (c_icmp_neF (p1 := 84) (p2 := 85) (tg := 121) (e_gI (k0 := 8) (p1 := 81) cf_3 (e_aload_n (k0 := 0) d_Parser_readTell_80 rfl rfl) (by decide) tw_281 d_Parser_readTell_81) (e_iconst d_Parser_readTell_84 (by decide)) d_Parser_readTell_85 rfl) (s_seq (sl1 := [(0, 1)]) (p1 := 98) (s_fop (k0 := 11) (p1 := 89) (p2 := 94) cf_3 (e_aload_n (k0 := 0) d_Parser_readTell_88 rfl rfl) d_Parser_readTell_89 d_Parser_readTell_90 (e_iconst d_Parser_readTell_93 (by decide)) (op_iadd d_Parser_readTell_94) (by decide) rfl tw_284 tw_284 rfl d_Parser_readTell_95) (s_goto (p1 := 118) (s_call (p1 := 115) (a_cons (ι := Value.ref) (k0 := 1) (p1 := 99) (fun _ => rfl) (e_aload_n (k0 := 0) d_Parser_readTell_98 rfl rfl) (a_cons (ι := Value.int) (k0 := 1) (p1 := 100) (fun _ => rfl) (e_iconst d_Parser_readTell_99 (by decide)) (a_cons (ι := Value.int) (k0 := 1) (p1 := 101) (fun _ => rfl) (e_iconst d_Parser_readTell_100 (by decide)) (a_cons (ι := Value.int) (k0 := 1) (p1 := 115) (fun _ => rfl) (e_bool (pt := 110) (pf := 114) (c_icmp_leF (p1 := 105) (p2 := 107) (tg := 114) (e_gI (k0 := 11) (p1 := 102) cf_3 (e_aload_n (k0 := 0) d_Parser_readTell_101 rfl rfl) (by decide) tw_284 d_Parser_readTell_102) (e_bipush d_Parser_readTell_105 (by decide)) d_Parser_readTell_107 rfl) d_Parser_readTell_110 d_Parser_readTell_111 rfl d_Parser_readTell_114 rfl) a_nil)))) (k_virt ok_Parser_readNamed mf_Parser_readNamed ⟨tw_773, tw_7⟩ rfl tw_771 d_Parser_readTell_115 (by decide) (by decide) (by decide))) d_Parser_readTell_118 rfl)) (s_if (pt := 130) (pf := 141) (p1 := 180) (c_icmp_neF (p1 := 125) (p2 := 127) (tg := 141) (e_gI (k0 := 8) (p1 := 122) cf_3 (e_aload_n (k0 := 0) d_Parser_readTell_121 rfl rfl) (by decide) tw_281 d_Parser_readTell_122) (e_bipush d_Parser_readTell_125 (by decide)) d_Parser_readTell_127 rfl) (s_goto (p1 := 138) (s_call (p1 := 135) (a_cons (ι := Value.ref) (k0 := 1) (p1 := 131) (fun _ => rfl) (e_aload_n (k0 := 0) d_Parser_readTell_130 rfl rfl) (a_cons (ι := Value.int) (k0 := 1) (p1 := 133) (fun _ => rfl) (e_bipush d_Parser_readTell_131 (by decide)) (a_cons (ι := Value.int) (k0 := 1) (p1 := 134) (fun _ => rfl) (e_iconst d_Parser_readTell_133 (by decide)) (a_cons (ι := Value.int) (k0 := 1) (p1 := 135) (fun _ => rfl) (e_iconst d_Parser_readTell_134 (by decide)) a_nil)))) (k_virt ok_Parser_readNamed mf_Parser_readNamed ⟨tw_773, tw_7⟩ rfl tw_771 d_Parser_readTell_135 (by decide) (by decide) (by decide))) d_Parser_readTell_138 rfl) (s_if (pt := 158) (pf := 171) (p1 := 180) (c_and (p1 := 149) (c_icmp_ltF (p1 := 145) (p2 := 146) (tg := 171) (e_gI (k0 := 8) (p1 := 142) cf_3 (e_aload_n (k0 := 0) d_Parser_readTell_141 rfl rfl) (by decide) tw_281 d_Parser_readTell_142) (e_iconst d_Parser_readTell_145 (by decide)) d_Parser_readTell_146 rfl) (c_icmp_gtF (p1 := 153) (p2 := 155) (tg := 171) (e_gI (k0 := 8) (p1 := 150) cf_3 (e_aload_n (k0 := 0) d_Parser_readTell_149 rfl rfl) (by decide) tw_281 d_Parser_readTell_150) (e_bipush d_Parser_readTell_153 (by decide)) d_Parser_readTell_155 rfl)) (s_goto (p1 := 168) (s_call (p1 := 165) (a_cons (ι := Value.ref) (k0 := 1) (p1 := 159) (fun _ => rfl) (e_aload_n (k0 := 0) d_Parser_readTell_158 rfl rfl) (a_cons (ι := Value.int) (k0 := 1) (p1 := 165) (fun _ => rfl) (e_isub (p1 := 163) (p2 := 164) (e_gI (k0 := 8) (p1 := 160) cf_3 (e_aload_n (k0 := 0) d_Parser_readTell_159 rfl rfl) (by decide) tw_281 d_Parser_readTell_160) (e_iconst d_Parser_readTell_163 (by decide)) d_Parser_readTell_164) a_nil)) (k_virt ok_Parser_readLaw mf_Parser_readLaw ⟨tw_785, tw_10⟩ rfl tw_783 d_Parser_readTell_165 (by decide) (by decide) (by decide))) d_Parser_readTell_168 rfl) (s_call (p1 := 177) (a_cons (ι := Value.ref) (k0 := 1) (p1 := 172) (fun _ => rfl) (e_aload_n (k0 := 0) d_Parser_readTell_171 rfl rfl) (a_cons (ι := Value.int) (k0 := 1) (p1 := 173) (fun _ => rfl) (e_iconst d_Parser_readTell_172 (by decide)) (a_cons (ι := Value.int) (k0 := 1) (p1 := 177) (fun _ => rfl) (e_gI (k0 := 7) (p1 := 174) cf_3 (e_aload_n (k0 := 0) d_Parser_readTell_173 rfl rfl) (by decide) tw_280 d_Parser_readTell_174) a_nil))) (k_virt ok_Parser_fail mf_Parser_fail ⟨tw_777, tw_8⟩ rfl tw_775 d_Parser_readTell_177 (by decide) (by decide) (by decide)))))))) (s_retV rfl d_Parser_readTell_180)))
/-! BlinkerCross$Parser.roadNamed(J)I -/
abbrev y_Parser_roadNamed : MethodName := ⟨"BlinkerCross$Parser", "roadNamed", "(J)I"⟩
abbrev Y_Parser_roadNamed : Yt := (prog_6_method_18_code, 4, "BlinkerCross$Parser", 0, (some .int), "roadNamed")
theorem d_Parser_roadNamed_0 : decode prog_6_method_18_code 0 = .ok (.iconst 0, 1) := by decide +kernel
theorem d_Parser_roadNamed_1 : decode prog_6_method_18_code 1 = .ok (.istore_n 3, 1) := by decide +kernel
theorem d_Parser_roadNamed_2 : decode prog_6_method_18_code 2 = .ok (.iload_n 3, 1) := by decide +kernel
theorem d_Parser_roadNamed_3 : decode prog_6_method_18_code 3 = .ok (.aload_n 0, 1) := by decide +kernel
theorem d_Parser_roadNamed_4 : decode prog_6_method_18_code 4 = .ok (.getfield 12, 3) := by decide +kernel
theorem d_Parser_roadNamed_7 : decode prog_6_method_18_code 7 = .ok (.getfield 139, 3) := by decide +kernel
theorem d_Parser_roadNamed_10 : decode prog_6_method_18_code 10 = .ok (.if_icmp .ge 22, 3) := by decide +kernel
theorem d_Parser_roadNamed_13 : decode prog_6_method_18_code 13 = .ok (.aload_n 0, 1) := by decide +kernel
theorem d_Parser_roadNamed_14 : decode prog_6_method_18_code 14 = .ok (.getfield 22, 3) := by decide +kernel
theorem d_Parser_roadNamed_17 : decode prog_6_method_18_code 17 = .ok (.iload_n 3, 1) := by decide +kernel
theorem d_Parser_roadNamed_18 : decode prog_6_method_18_code 18 = .ok (.laload, 1) := by decide +kernel
theorem d_Parser_roadNamed_19 : decode prog_6_method_18_code 19 = .ok (.lload_n 1, 1) := by decide +kernel
theorem d_Parser_roadNamed_20 : decode prog_6_method_18_code 20 = .ok (.lcmp, 1) := by decide +kernel
theorem d_Parser_roadNamed_21 : decode prog_6_method_18_code 21 = .ok (.ifCond .ne 5, 3) := by decide +kernel
theorem d_Parser_roadNamed_24 : decode prog_6_method_18_code 24 = .ok (.iload_n 3, 1) := by decide +kernel
theorem d_Parser_roadNamed_25 : decode prog_6_method_18_code 25 = .ok (.ireturn, 1) := by decide +kernel
theorem d_Parser_roadNamed_26 : decode prog_6_method_18_code 26 = .ok (.iinc 3 1, 3) := by decide +kernel
theorem d_Parser_roadNamed_29 : decode prog_6_method_18_code 29 = .ok (.goto (-27), 3) := by decide +kernel
theorem d_Parser_roadNamed_32 : decode prog_6_method_18_code 32 = .ok (.iconst (-1), 1) := by decide +kernel
theorem d_Parser_roadNamed_33 : decode prog_6_method_18_code 33 = .ok (.ireturn, 1) := by decide +kernel
noncomputable def Lc_Parser_roadNamed_1 : Xp Bool := o2 (fun x y => decide (x < y)) (vI 2) (gI 2 0 (gR 3 0 (vR 0)))
noncomputable def Lb_Parser_roadNamed_1 : Sm := sIf (o2 (fun x y => decide (x = y)) (aL (gR 3 3 (vR 0)) (vI 2)) (vL 1)) (sRet (asV Value.int (vI 2))) (sSkip)
noncomputable def Lu_Parser_roadNamed_1 : Sm := sInc 2 (ii 1)
noncomputable def F_Parser_roadNamed : Sm := sSeq (sBlk 2 (sSeq (sDecl (asV Value.int (kI (ii 0)))) (sWh (Lc_Parser_roadNamed_1) (Lb_Parser_roadNamed_1) Lu_Parser_roadNamed_1))) (sRet (asV Value.int (kI (ii (-1)))))
theorem mf_Parser_roadNamed : Mf y_Parser_roadNamed prog_6_method_18_code 4 (some .int) 1 := ⟨tw_823, tw_125, by decide +kernel⟩
noncomputable def D_Parser_roadNamed : Dn := runS [1, 2] F_Parser_roadNamed
theorem ok_Parser_roadNamed : MOK y_Parser_roadNamed prog_6_method_18_code 4 (some .int) 0 0 0 D_Parser_roadNamed := MOK.of (by decide) (by decide) (show SO Y_Parser_roadNamed [(0, 1), (1, 2)] [(0, 1), (1, 2)] 0 34 (([], 0), ([], 0)) F_Parser_roadNamed from
  (s_seq (sl1 := [(0, 1), (1, 2)]) (p1 := 32) (s_blk (sl1 := [(0, 1), (1, 2), (3, 1)]) (s_seq (sl1 := [(0, 1), (1, 2), (3, 1)]) (p1 := 2) (s_decl (p1 := 1) (e_iconst d_Parser_roadNamed_0 (by decide)) (t_istore_n d_Parser_roadNamed_1 rfl (by decide)) rfl) (s_for (pt := 13) (pu := 26) (pf := 32) (pg := 0) (c_icmp_geF (p1 := 3) (p2 := 10) (tg := 32) (e_iload_n (k0 := 2) d_Parser_roadNamed_2 rfl rfl) (e_gI (k0 := 0) (p1 := 7) cf_2 (e_gR (k0 := 0) (p1 := 4) cf_3 (e_aload_n (k0 := 0) d_Parser_roadNamed_3 rfl rfl) (by decide) tw_271 d_Parser_roadNamed_4) (by decide) tw_202 d_Parser_roadNamed_7) d_Parser_roadNamed_10 rfl) (s_if (pt := 24) (pf := 26) (c_lcmp_neF (p1 := 19) (p2 := 20) (tg := 26) (e_lald (p1 := 17) (p2 := 18) (e_gR (k0 := 3) (p1 := 14) cf_3 (e_aload_n (k0 := 0) d_Parser_roadNamed_13 rfl rfl) (by decide) tw_276 d_Parser_roadNamed_14) (e_iload_n (k0 := 2) d_Parser_roadNamed_17 rfl rfl) d_Parser_roadNamed_18) (e_lload_n (k0 := 1) d_Parser_roadNamed_19 rfl rfl) d_Parser_roadNamed_20 d_Parser_roadNamed_21 rfl) (s_ret (p1 := 25) (e_iload_n (k0 := 2) d_Parser_roadNamed_24 rfl rfl) rfl d_Parser_roadNamed_25) s_skip) (s_goto (p1 := 29) (s_inc (k0 := 2) d_Parser_roadNamed_26 rfl rfl (Nat.le_of_ble_eq_true rfl) rfl) d_Parser_roadNamed_29 rfl))) rfl) (s_ret (p1 := 33) (e_iconst d_Parser_roadNamed_32 (by decide)) rfl d_Parser_roadNamed_33)))
/-! BlinkerCross$Parser.goerNamed(J)I -/
abbrev y_Parser_goerNamed : MethodName := ⟨"BlinkerCross$Parser", "goerNamed", "(J)I"⟩
abbrev Y_Parser_goerNamed : Yt := (prog_6_method_19_code, 4, "BlinkerCross$Parser", 0, (some .int), "goerNamed")
theorem d_Parser_goerNamed_0 : decode prog_6_method_19_code 0 = .ok (.iconst 0, 1) := by decide +kernel
theorem d_Parser_goerNamed_1 : decode prog_6_method_19_code 1 = .ok (.istore_n 3, 1) := by decide +kernel
theorem d_Parser_goerNamed_2 : decode prog_6_method_19_code 2 = .ok (.iload_n 3, 1) := by decide +kernel
theorem d_Parser_goerNamed_3 : decode prog_6_method_19_code 3 = .ok (.aload_n 0, 1) := by decide +kernel
theorem d_Parser_goerNamed_4 : decode prog_6_method_19_code 4 = .ok (.getfield 12, 3) := by decide +kernel
theorem d_Parser_goerNamed_7 : decode prog_6_method_19_code 7 = .ok (.getfield 148, 3) := by decide +kernel
theorem d_Parser_goerNamed_10 : decode prog_6_method_19_code 10 = .ok (.if_icmp .ge 22, 3) := by decide +kernel
theorem d_Parser_goerNamed_13 : decode prog_6_method_19_code 13 = .ok (.aload_n 0, 1) := by decide +kernel
theorem d_Parser_goerNamed_14 : decode prog_6_method_19_code 14 = .ok (.getfield 26, 3) := by decide +kernel
theorem d_Parser_goerNamed_17 : decode prog_6_method_19_code 17 = .ok (.iload_n 3, 1) := by decide +kernel
theorem d_Parser_goerNamed_18 : decode prog_6_method_19_code 18 = .ok (.laload, 1) := by decide +kernel
theorem d_Parser_goerNamed_19 : decode prog_6_method_19_code 19 = .ok (.lload_n 1, 1) := by decide +kernel
theorem d_Parser_goerNamed_20 : decode prog_6_method_19_code 20 = .ok (.lcmp, 1) := by decide +kernel
theorem d_Parser_goerNamed_21 : decode prog_6_method_19_code 21 = .ok (.ifCond .ne 5, 3) := by decide +kernel
theorem d_Parser_goerNamed_24 : decode prog_6_method_19_code 24 = .ok (.iload_n 3, 1) := by decide +kernel
theorem d_Parser_goerNamed_25 : decode prog_6_method_19_code 25 = .ok (.ireturn, 1) := by decide +kernel
theorem d_Parser_goerNamed_26 : decode prog_6_method_19_code 26 = .ok (.iinc 3 1, 3) := by decide +kernel
theorem d_Parser_goerNamed_29 : decode prog_6_method_19_code 29 = .ok (.goto (-27), 3) := by decide +kernel
theorem d_Parser_goerNamed_32 : decode prog_6_method_19_code 32 = .ok (.iconst (-1), 1) := by decide +kernel
theorem d_Parser_goerNamed_33 : decode prog_6_method_19_code 33 = .ok (.ireturn, 1) := by decide +kernel
noncomputable def Lc_Parser_goerNamed_1 : Xp Bool := o2 (fun x y => decide (x < y)) (vI 2) (gI 2 1 (gR 3 0 (vR 0)))
noncomputable def Lb_Parser_goerNamed_1 : Sm := sIf (o2 (fun x y => decide (x = y)) (aL (gR 3 4 (vR 0)) (vI 2)) (vL 1)) (sRet (asV Value.int (vI 2))) (sSkip)
noncomputable def Lu_Parser_goerNamed_1 : Sm := sInc 2 (ii 1)
noncomputable def F_Parser_goerNamed : Sm := sSeq (sBlk 2 (sSeq (sDecl (asV Value.int (kI (ii 0)))) (sWh (Lc_Parser_goerNamed_1) (Lb_Parser_goerNamed_1) Lu_Parser_goerNamed_1))) (sRet (asV Value.int (kI (ii (-1)))))
theorem mf_Parser_goerNamed : Mf y_Parser_goerNamed prog_6_method_19_code 4 (some .int) 1 := ⟨tw_827, tw_125, by decide +kernel⟩
noncomputable def D_Parser_goerNamed : Dn := runS [1, 2] F_Parser_goerNamed
theorem ok_Parser_goerNamed : MOK y_Parser_goerNamed prog_6_method_19_code 4 (some .int) 0 0 0 D_Parser_goerNamed := MOK.of (by decide) (by decide) (show SO Y_Parser_goerNamed [(0, 1), (1, 2)] [(0, 1), (1, 2)] 0 34 (([], 0), ([], 0)) F_Parser_goerNamed from
  (s_seq (sl1 := [(0, 1), (1, 2)]) (p1 := 32) (s_blk (sl1 := [(0, 1), (1, 2), (3, 1)]) (s_seq (sl1 := [(0, 1), (1, 2), (3, 1)]) (p1 := 2) (s_decl (p1 := 1) (e_iconst d_Parser_goerNamed_0 (by decide)) (t_istore_n d_Parser_goerNamed_1 rfl (by decide)) rfl) (s_for (pt := 13) (pu := 26) (pf := 32) (pg := 0) (c_icmp_geF (p1 := 3) (p2 := 10) (tg := 32) (e_iload_n (k0 := 2) d_Parser_goerNamed_2 rfl rfl) (e_gI (k0 := 1) (p1 := 7) cf_2 (e_gR (k0 := 0) (p1 := 4) cf_3 (e_aload_n (k0 := 0) d_Parser_goerNamed_3 rfl rfl) (by decide) tw_271 d_Parser_goerNamed_4) (by decide) tw_212 d_Parser_goerNamed_7) d_Parser_goerNamed_10 rfl) (s_if (pt := 24) (pf := 26) (c_lcmp_neF (p1 := 19) (p2 := 20) (tg := 26) (e_lald (p1 := 17) (p2 := 18) (e_gR (k0 := 4) (p1 := 14) cf_3 (e_aload_n (k0 := 0) d_Parser_goerNamed_13 rfl rfl) (by decide) tw_277 d_Parser_goerNamed_14) (e_iload_n (k0 := 2) d_Parser_goerNamed_17 rfl rfl) d_Parser_goerNamed_18) (e_lload_n (k0 := 1) d_Parser_goerNamed_19 rfl rfl) d_Parser_goerNamed_20 d_Parser_goerNamed_21 rfl) (s_ret (p1 := 25) (e_iload_n (k0 := 2) d_Parser_goerNamed_24 rfl rfl) rfl d_Parser_goerNamed_25) s_skip) (s_goto (p1 := 29) (s_inc (k0 := 2) d_Parser_goerNamed_26 rfl rfl (Nat.le_of_ble_eq_true rfl) rfl) d_Parser_goerNamed_29 rfl))) rfl) (s_ret (p1 := 33) (e_iconst d_Parser_goerNamed_32 (by decide)) rfl d_Parser_goerNamed_33)))
/-! BlinkerCross$Parser.isTold(J)Z -/
abbrev y_Parser_isTold : MethodName := ⟨"BlinkerCross$Parser", "isTold", "(J)Z"⟩
abbrev Y_Parser_isTold : Yt := (prog_6_method_17_code, 3, "BlinkerCross$Parser", 1, (some .boolean), "isTold")
theorem d_Parser_isTold_0 : decode prog_6_method_17_code 0 = .ok (.aload_n 0, 1) := by decide +kernel
theorem d_Parser_isTold_1 : decode prog_6_method_17_code 1 = .ok (.lload_n 1, 1) := by decide +kernel
theorem d_Parser_isTold_2 : decode prog_6_method_17_code 2 = .ok (.invokevirtual 164, 3) := by decide +kernel
theorem d_Parser_isTold_5 : decode prog_6_method_17_code 5 = .ok (.ifCond .ge 11, 3) := by decide +kernel
theorem d_Parser_isTold_8 : decode prog_6_method_17_code 8 = .ok (.aload_n 0, 1) := by decide +kernel
theorem d_Parser_isTold_9 : decode prog_6_method_17_code 9 = .ok (.lload_n 1, 1) := by decide +kernel
theorem d_Parser_isTold_10 : decode prog_6_method_17_code 10 = .ok (.invokevirtual 157, 3) := by decide +kernel
theorem d_Parser_isTold_13 : decode prog_6_method_17_code 13 = .ok (.ifCond .lt 7, 3) := by decide +kernel
theorem d_Parser_isTold_16 : decode prog_6_method_17_code 16 = .ok (.iconst 1, 1) := by decide +kernel
theorem d_Parser_isTold_17 : decode prog_6_method_17_code 17 = .ok (.goto 4, 3) := by decide +kernel
theorem d_Parser_isTold_20 : decode prog_6_method_17_code 20 = .ok (.iconst 0, 1) := by decide +kernel
theorem d_Parser_isTold_21 : decode prog_6_method_17_code 21 = .ok (.ireturn, 1) := by decide +kernel
noncomputable def F_Parser_isTold : Sm := sRetZ (bX (cOr (o1 (fun x => decide (x ≥ 0)) (cI (mV 3 D_Parser_roadNamed) [asV Value.ref (vR 0), asV Value.long (vL 1)])) (o1 (fun x => decide (x ≥ 0)) (cI (mV 3 D_Parser_goerNamed) [asV Value.ref (vR 0), asV Value.long (vL 1)]))))
theorem mf_Parser_isTold : Mf y_Parser_isTold prog_6_method_17_code 3 (some .boolean) 1 := ⟨tw_819, tw_125, by decide +kernel⟩
noncomputable def D_Parser_isTold : Dn := runS [1, 2] F_Parser_isTold
theorem ok_Parser_isTold : MOK y_Parser_isTold prog_6_method_17_code 3 (some .boolean) 1 0 0 D_Parser_isTold := MOK.of (by decide) (by decide) (show SO Y_Parser_isTold [(0, 1), (1, 2)] [(0, 1), (1, 2)] 0 22 (([], 0), ([], 0)) F_Parser_isTold from
  (s_retZ (p1 := 21) (e_bool (pt := 16) (pf := 20) (c_or (p1 := 8) (c_if_geT (p1 := 5) (tg := 16) (e_cI (p1 := 2) (a_cons (ι := Value.ref) (k0 := 1) (p1 := 1) (fun _ => rfl) (e_aload_n (k0 := 0) d_Parser_isTold_0 rfl rfl) (a_cons (ι := Value.long) (k0 := 2) (p1 := 2) (fun _ => rfl) (e_lload_n (k0 := 1) d_Parser_isTold_1 rfl rfl) a_nil)) (k_virt ok_Parser_roadNamed mf_Parser_roadNamed ⟨tw_822, tw_17⟩ rfl tw_820 d_Parser_isTold_2 (by decide) (by decide) (by decide))) d_Parser_isTold_5 rfl) (c_if_ltF (p1 := 13) (tg := 20) (e_cI (p1 := 10) (a_cons (ι := Value.ref) (k0 := 1) (p1 := 9) (fun _ => rfl) (e_aload_n (k0 := 0) d_Parser_isTold_8 rfl rfl) (a_cons (ι := Value.long) (k0 := 2) (p1 := 10) (fun _ => rfl) (e_lload_n (k0 := 1) d_Parser_isTold_9 rfl rfl) a_nil)) (k_virt ok_Parser_goerNamed mf_Parser_goerNamed ⟨tw_826, tw_18⟩ rfl tw_824 d_Parser_isTold_10 (by decide) (by decide) (by decide))) d_Parser_isTold_13 rfl)) d_Parser_isTold_16 d_Parser_isTold_17 rfl d_Parser_isTold_20 rfl) rfl d_Parser_isTold_21))
/-! BlinkerCross$Parser.numberAt(III)I -/
abbrev y_Parser_numberAt : MethodName := ⟨"BlinkerCross$Parser", "numberAt", "(III)I"⟩
abbrev Y_Parser_numberAt : Yt := (prog_6_method_16_code, 6, "BlinkerCross$Parser", 1, (some .int), "numberAt")
theorem d_Parser_numberAt_0 : decode prog_6_method_16_code 0 = .ok (.aload_n 0, 1) := by decide +kernel
theorem d_Parser_numberAt_1 : decode prog_6_method_16_code 1 = .ok (.getfield 29, 3) := by decide +kernel
theorem d_Parser_numberAt_4 : decode prog_6_method_16_code 4 = .ok (.iload_n 1, 1) := by decide +kernel
theorem d_Parser_numberAt_5 : decode prog_6_method_16_code 5 = .ok (.invokevirtual 115, 3) := by decide +kernel
theorem d_Parser_numberAt_8 : decode prog_6_method_16_code 8 = .ok (.lstore 4, 2) := by decide +kernel
theorem d_Parser_numberAt_10 : decode prog_6_method_16_code 10 = .ok (.lload 4, 2) := by decide +kernel
theorem d_Parser_numberAt_12 : decode prog_6_method_16_code 12 = .ok (.iload_n 2, 1) := by decide +kernel
theorem d_Parser_numberAt_13 : decode prog_6_method_16_code 13 = .ok (.i2l, 1) := by decide +kernel
theorem d_Parser_numberAt_14 : decode prog_6_method_16_code 14 = .ok (.lcmp, 1) := by decide +kernel
theorem d_Parser_numberAt_15 : decode prog_6_method_16_code 15 = .ok (.ifCond .lt 11, 3) := by decide +kernel
theorem d_Parser_numberAt_18 : decode prog_6_method_16_code 18 = .ok (.lload 4, 2) := by decide +kernel
theorem d_Parser_numberAt_20 : decode prog_6_method_16_code 20 = .ok (.iload_n 3, 1) := by decide +kernel
theorem d_Parser_numberAt_21 : decode prog_6_method_16_code 21 = .ok (.i2l, 1) := by decide +kernel
theorem d_Parser_numberAt_22 : decode prog_6_method_16_code 22 = .ok (.lcmp, 1) := by decide +kernel
theorem d_Parser_numberAt_23 : decode prog_6_method_16_code 23 = .ok (.ifCond .le 9, 3) := by decide +kernel
theorem d_Parser_numberAt_26 : decode prog_6_method_16_code 26 = .ok (.aload_n 0, 1) := by decide +kernel
theorem d_Parser_numberAt_27 : decode prog_6_method_16_code 27 = .ok (.iconst 5, 1) := by decide +kernel
theorem d_Parser_numberAt_28 : decode prog_6_method_16_code 28 = .ok (.iload_n 1, 1) := by decide +kernel
theorem d_Parser_numberAt_29 : decode prog_6_method_16_code 29 = .ok (.invokevirtual 87, 3) := by decide +kernel
theorem d_Parser_numberAt_32 : decode prog_6_method_16_code 32 = .ok (.lload 4, 2) := by decide +kernel
theorem d_Parser_numberAt_34 : decode prog_6_method_16_code 34 = .ok (.l2i, 1) := by decide +kernel
theorem d_Parser_numberAt_35 : decode prog_6_method_16_code 35 = .ok (.ireturn, 1) := by decide +kernel
noncomputable def F_Parser_numberAt : Sm := sSeq (sDecl (asV Value.long (cL (mV 1 D_Tape_valueAt) [asV Value.ref (gR 3 2 (vR 0)), asV Value.int (vI 1)]))) (sSeq (sIf (cOr (o2 (fun x y => decide (x < y)) (vL 4) (o1 (fun x => x.toInt64) (vI 2))) (o2 (fun x y => decide (x > y)) (vL 4) (o1 (fun x => x.toInt64) (vI 3)))) (sCall (mV 3 D_Parser_fail) [asV Value.ref (vR 0), asV Value.int (kI (ii 5)), asV Value.int (vI 1)]) (sSkip)) (sRet (asV Value.int (o1 (fun x => x.toInt32) (vL 4)))))
theorem mf_Parser_numberAt : Mf y_Parser_numberAt prog_6_method_16_code 6 (some .int) 3 := ⟨tw_831, tw_125, by decide +kernel⟩
noncomputable def D_Parser_numberAt : Dn := runS [1, 1, 1, 1] F_Parser_numberAt
theorem ok_Parser_numberAt : MOK y_Parser_numberAt prog_6_method_16_code 6 (some .int) 1 0 0 D_Parser_numberAt := MOK.of (by decide) (by decide) (show SO Y_Parser_numberAt [(0, 1), (1, 1), (2, 1), (3, 1)] [(0, 1), (1, 1), (2, 1), (3, 1), (4, 2)] 0 36 (([], 0), ([], 0)) F_Parser_numberAt from
  (s_seq (sl1 := [(0, 1), (1, 1), (2, 1), (3, 1), (4, 2)]) (p1 := 10) (s_decl (p1 := 8) (e_cL (p1 := 5) (a_cons (ι := Value.ref) (k0 := 1) (p1 := 4) (fun _ => rfl) (e_gR (k0 := 2) (p1 := 1) cf_3 (e_aload_n (k0 := 0) d_Parser_numberAt_0 rfl rfl) (by decide) tw_275 d_Parser_numberAt_1) (a_cons (ι := Value.int) (k0 := 1) (p1 := 5) (fun _ => rfl) (e_iload_n (k0 := 1) d_Parser_numberAt_4 rfl rfl) a_nil)) (k_virt ok_Tape_valueAt mf_Tape_valueAt ⟨tw_800, tw_801⟩ rfl tw_799 d_Parser_numberAt_5 (by decide) (by decide) (by decide))) (t_lstore d_Parser_numberAt_8 (by decide)) rfl) (s_seq (sl1 := [(0, 1), (1, 1), (2, 1), (3, 1), (4, 2)]) (p1 := 32) (s_if (pt := 26) (pf := 32) (c_or (p1 := 18) (c_lcmp_ltT (p1 := 12) (p2 := 14) (tg := 26) (e_lload (k0 := 4) d_Parser_numberAt_10 rfl) (e_i2l (p1 := 13) (e_iload_n (k0 := 2) d_Parser_numberAt_12 rfl rfl) d_Parser_numberAt_13) d_Parser_numberAt_14 d_Parser_numberAt_15 rfl) (c_lcmp_leF (p1 := 20) (p2 := 22) (tg := 32) (e_lload (k0 := 4) d_Parser_numberAt_18 rfl) (e_i2l (p1 := 21) (e_iload_n (k0 := 3) d_Parser_numberAt_20 rfl rfl) d_Parser_numberAt_21) d_Parser_numberAt_22 d_Parser_numberAt_23 rfl)) (s_call (p1 := 29) (a_cons (ι := Value.ref) (k0 := 1) (p1 := 27) (fun _ => rfl) (e_aload_n (k0 := 0) d_Parser_numberAt_26 rfl rfl) (a_cons (ι := Value.int) (k0 := 1) (p1 := 28) (fun _ => rfl) (e_iconst d_Parser_numberAt_27 (by decide)) (a_cons (ι := Value.int) (k0 := 1) (p1 := 29) (fun _ => rfl) (e_iload_n (k0 := 1) d_Parser_numberAt_28 rfl rfl) a_nil))) (k_virt ok_Parser_fail mf_Parser_fail ⟨tw_777, tw_8⟩ rfl tw_775 d_Parser_numberAt_29 (by decide) (by decide) (by decide))) s_skip) (s_ret (p1 := 35) (e_l2i (p1 := 34) (e_lload (k0 := 4) d_Parser_numberAt_32 rfl) d_Parser_numberAt_34) rfl d_Parser_numberAt_35))))
/-! BlinkerCross$Parser.understandRoad(I)V -/
abbrev y_Parser_understandRoad : MethodName := ⟨"BlinkerCross$Parser", "understandRoad", "(I)V"⟩
abbrev Y_Parser_understandRoad : Yt := (prog_6_method_12_code, 5, "BlinkerCross$Parser", 2, none, "understandRoad")
theorem d_Parser_understandRoad_0 : decode prog_6_method_12_code 0 = .ok (.aload_n 0, 1) := by decide +kernel
theorem d_Parser_understandRoad_1 : decode prog_6_method_12_code 1 = .ok (.getfield 29, 3) := by decide +kernel
theorem d_Parser_understandRoad_4 : decode prog_6_method_12_code 4 = .ok (.iload_n 1, 1) := by decide +kernel
theorem d_Parser_understandRoad_5 : decode prog_6_method_12_code 5 = .ok (.iconst 1, 1) := by decide +kernel
theorem d_Parser_understandRoad_6 : decode prog_6_method_12_code 6 = .ok (.iadd, 1) := by decide +kernel
theorem d_Parser_understandRoad_7 : decode prog_6_method_12_code 7 = .ok (.invokevirtual 115, 3) := by decide +kernel
theorem d_Parser_understandRoad_10 : decode prog_6_method_12_code 10 = .ok (.lstore_n 2, 1) := by decide +kernel
theorem d_Parser_understandRoad_11 : decode prog_6_method_12_code 11 = .ok (.aload_n 0, 1) := by decide +kernel
theorem d_Parser_understandRoad_12 : decode prog_6_method_12_code 12 = .ok (.lload_n 2, 1) := by decide +kernel
theorem d_Parser_understandRoad_13 : decode prog_6_method_12_code 13 = .ok (.invokevirtual 131, 3) := by decide +kernel
theorem d_Parser_understandRoad_16 : decode prog_6_method_12_code 16 = .ok (.ifCond .eq 11, 3) := by decide +kernel
theorem d_Parser_understandRoad_19 : decode prog_6_method_12_code 19 = .ok (.aload_n 0, 1) := by decide +kernel
theorem d_Parser_understandRoad_20 : decode prog_6_method_12_code 20 = .ok (.iconst 3, 1) := by decide +kernel
theorem d_Parser_understandRoad_21 : decode prog_6_method_12_code 21 = .ok (.iload_n 1, 1) := by decide +kernel
theorem d_Parser_understandRoad_22 : decode prog_6_method_12_code 22 = .ok (.iconst 1, 1) := by decide +kernel
theorem d_Parser_understandRoad_23 : decode prog_6_method_12_code 23 = .ok (.iadd, 1) := by decide +kernel
theorem d_Parser_understandRoad_24 : decode prog_6_method_12_code 24 = .ok (.invokevirtual 87, 3) := by decide +kernel
theorem d_Parser_understandRoad_27 : decode prog_6_method_12_code 27 = .ok (.aload_n 0, 1) := by decide +kernel
theorem d_Parser_understandRoad_28 : decode prog_6_method_12_code 28 = .ok (.iload_n 1, 1) := by decide +kernel
theorem d_Parser_understandRoad_29 : decode prog_6_method_12_code 29 = .ok (.iconst 2, 1) := by decide +kernel
theorem d_Parser_understandRoad_30 : decode prog_6_method_12_code 30 = .ok (.iadd, 1) := by decide +kernel
theorem d_Parser_understandRoad_31 : decode prog_6_method_12_code 31 = .ok (.iconst 1, 1) := by decide +kernel
theorem d_Parser_understandRoad_32 : decode prog_6_method_12_code 32 = .ok (.bipush 9, 2) := by decide +kernel
theorem d_Parser_understandRoad_34 : decode prog_6_method_12_code 34 = .ok (.invokevirtual 135, 3) := by decide +kernel
theorem d_Parser_understandRoad_37 : decode prog_6_method_12_code 37 = .ok (.istore 4, 2) := by decide +kernel
theorem d_Parser_understandRoad_39 : decode prog_6_method_12_code 39 = .ok (.aload_n 0, 1) := by decide +kernel
theorem d_Parser_understandRoad_40 : decode prog_6_method_12_code 40 = .ok (.getfield 41, 3) := by decide +kernel
theorem d_Parser_understandRoad_43 : decode prog_6_method_12_code 43 = .ok (.ifCond .ne 58, 3) := by decide +kernel
theorem d_Parser_understandRoad_46 : decode prog_6_method_12_code 46 = .ok (.aload_n 0, 1) := by decide +kernel
theorem d_Parser_understandRoad_47 : decode prog_6_method_12_code 47 = .ok (.getfield 12, 3) := by decide +kernel
theorem d_Parser_understandRoad_50 : decode prog_6_method_12_code 50 = .ok (.getfield 139, 3) := by decide +kernel
theorem d_Parser_understandRoad_53 : decode prog_6_method_12_code 53 = .ok (.bipush 6, 2) := by decide +kernel
theorem d_Parser_understandRoad_55 : decode prog_6_method_12_code 55 = .ok (.if_icmp .ge 46, 3) := by decide +kernel
theorem d_Parser_understandRoad_58 : decode prog_6_method_12_code 58 = .ok (.aload_n 0, 1) := by decide +kernel
theorem d_Parser_understandRoad_59 : decode prog_6_method_12_code 59 = .ok (.getfield 22, 3) := by decide +kernel
theorem d_Parser_understandRoad_62 : decode prog_6_method_12_code 62 = .ok (.aload_n 0, 1) := by decide +kernel
theorem d_Parser_understandRoad_63 : decode prog_6_method_12_code 63 = .ok (.getfield 12, 3) := by decide +kernel
theorem d_Parser_understandRoad_66 : decode prog_6_method_12_code 66 = .ok (.getfield 139, 3) := by decide +kernel
theorem d_Parser_understandRoad_69 : decode prog_6_method_12_code 69 = .ok (.lload_n 2, 1) := by decide +kernel
theorem d_Parser_understandRoad_70 : decode prog_6_method_12_code 70 = .ok (.lastore, 1) := by decide +kernel
theorem d_Parser_understandRoad_71 : decode prog_6_method_12_code 71 = .ok (.aload_n 0, 1) := by decide +kernel
theorem d_Parser_understandRoad_72 : decode prog_6_method_12_code 72 = .ok (.getfield 12, 3) := by decide +kernel
theorem d_Parser_understandRoad_75 : decode prog_6_method_12_code 75 = .ok (.getfield 142, 3) := by decide +kernel
theorem d_Parser_understandRoad_78 : decode prog_6_method_12_code 78 = .ok (.aload_n 0, 1) := by decide +kernel
theorem d_Parser_understandRoad_79 : decode prog_6_method_12_code 79 = .ok (.getfield 12, 3) := by decide +kernel
theorem d_Parser_understandRoad_82 : decode prog_6_method_12_code 82 = .ok (.getfield 139, 3) := by decide +kernel
theorem d_Parser_understandRoad_85 : decode prog_6_method_12_code 85 = .ok (.iload 4, 2) := by decide +kernel
theorem d_Parser_understandRoad_87 : decode prog_6_method_12_code 87 = .ok (.iastore, 1) := by decide +kernel
theorem d_Parser_understandRoad_88 : decode prog_6_method_12_code 88 = .ok (.aload_n 0, 1) := by decide +kernel
theorem d_Parser_understandRoad_89 : decode prog_6_method_12_code 89 = .ok (.getfield 12, 3) := by decide +kernel
theorem d_Parser_understandRoad_92 : decode prog_6_method_12_code 92 = .ok (.dup, 1) := by decide +kernel
theorem d_Parser_understandRoad_93 : decode prog_6_method_12_code 93 = .ok (.getfield 139, 3) := by decide +kernel
theorem d_Parser_understandRoad_96 : decode prog_6_method_12_code 96 = .ok (.iconst 1, 1) := by decide +kernel
theorem d_Parser_understandRoad_97 : decode prog_6_method_12_code 97 = .ok (.iadd, 1) := by decide +kernel
theorem d_Parser_understandRoad_98 : decode prog_6_method_12_code 98 = .ok (.putfield 139, 3) := by decide +kernel
theorem d_Parser_understandRoad_101 : decode prog_6_method_12_code 101 = .ok (.return_, 1) := by decide +kernel
noncomputable def F_Parser_understandRoad : Sm := sSeq (sDecl (asV Value.long (cL (mV 1 D_Tape_valueAt) [asV Value.ref (gR 3 2 (vR 0)), asV Value.int (o2 (fun x y => x + y) (vI 1) (kI (ii 1)))]))) (sSeq (sIf (o1 (fun x => decide (x ≠ 0)) (cI (mV 3 D_Parser_isTold) [asV Value.ref (vR 0), asV Value.long (vL 2)])) (sCall (mV 3 D_Parser_fail) [asV Value.ref (vR 0), asV Value.int (kI (ii 3)), asV Value.int (o2 (fun x y => x + y) (vI 1) (kI (ii 1)))]) (sSkip)) (sSeq (sDecl (asV Value.int (cI (mV 3 D_Parser_numberAt) [asV Value.ref (vR 0), asV Value.int (o2 (fun x y => x + y) (vI 1) (kI (ii 2))), asV Value.int (kI (ii 1)), asV Value.int (kI (ii 9))]))) (sSeq (sIf (cAnd (o1 (fun x => decide (x = 0)) (gI 3 5 (vR 0))) (o2 (fun x y => decide (x < y)) (gI 2 0 (gR 3 0 (vR 0))) (kI (ii 6)))) (sSeq (sAstL (gR 3 3 (vR 0)) (gI 2 0 (gR 3 0 (vR 0))) (vL 2)) (sSeq (sAst 0 (gR 2 3 (gR 3 0 (vR 0))) (gI 2 0 (gR 3 0 (vR 0))) (vI 3)) (sFop 2 0 (gR 3 0 (vR 0)) (fun x y => x + y) (kI (ii 1))))) (sSkip)) (sRetV))))
theorem mf_Parser_understandRoad : Mf y_Parser_understandRoad prog_6_method_12_code 5 none 1 := ⟨tw_815, tw_125, by decide +kernel⟩
noncomputable def D_Parser_understandRoad : Dn := runS [1, 1] F_Parser_understandRoad
theorem ok_Parser_understandRoad : MOK y_Parser_understandRoad prog_6_method_12_code 5 none 2 0 0 D_Parser_understandRoad := MOK.of (by decide) (by decide) (show SO Y_Parser_understandRoad [(0, 1), (1, 1)] [(0, 1), (1, 1), (2, 2), (4, 1)] 0 102 (([], 0), ([], 0)) F_Parser_understandRoad from
  (s_seq (sl1 := [(0, 1), (1, 1), (2, 2)]) (p1 := 11) (s_decl (p1 := 10) (e_cL (p1 := 7) (a_cons (ι := Value.ref) (k0 := 1) (p1 := 4) (fun _ => rfl) (e_gR (k0 := 2) (p1 := 1) cf_3 (e_aload_n (k0 := 0) d_Parser_understandRoad_0 rfl rfl) (by decide) tw_275 d_Parser_understandRoad_1) (a_cons (ι := Value.int) (k0 := 1) (p1 := 7) (fun _ => rfl) (e_iadd (p1 := 5) (p2 := 6) (e_iload_n (k0 := 1) d_Parser_understandRoad_4 rfl rfl) (e_iconst d_Parser_understandRoad_5 (by decide)) d_Parser_understandRoad_6) a_nil)) (k_virt ok_Tape_valueAt mf_Tape_valueAt ⟨tw_800, tw_801⟩ rfl tw_799 d_Parser_understandRoad_7 (by decide) (by decide) (by decide))) (t_lstore_n d_Parser_understandRoad_10 rfl (by decide)) rfl) (s_seq (sl1 := [(0, 1), (1, 1), (2, 2)]) (p1 := 27) (s_if (pt := 19) (pf := 27) (c_if_eqF (p1 := 16) (tg := 27) (e_cI (p1 := 13) (a_cons (ι := Value.ref) (k0 := 1) (p1 := 12) (fun _ => rfl) (e_aload_n (k0 := 0) d_Parser_understandRoad_11 rfl rfl) (a_cons (ι := Value.long) (k0 := 2) (p1 := 13) (fun _ => rfl) (e_lload_n (k0 := 2) d_Parser_understandRoad_12 rfl rfl) a_nil)) (k_virt ok_Parser_isTold mf_Parser_isTold ⟨tw_818, tw_16⟩ rfl tw_816 d_Parser_understandRoad_13 (by decide) (by decide) (by decide))) d_Parser_understandRoad_16 rfl) (s_call (p1 := 24) (a_cons (ι := Value.ref) (k0 := 1) (p1 := 20) (fun _ => rfl) (e_aload_n (k0 := 0) d_Parser_understandRoad_19 rfl rfl) (a_cons (ι := Value.int) (k0 := 1) (p1 := 21) (fun _ => rfl) (e_iconst d_Parser_understandRoad_20 (by decide)) (a_cons (ι := Value.int) (k0 := 1) (p1 := 24) (fun _ => rfl) (e_iadd (p1 := 22) (p2 := 23) (e_iload_n (k0 := 1) d_Parser_understandRoad_21 rfl rfl) (e_iconst d_Parser_understandRoad_22 (by decide)) d_Parser_understandRoad_23) a_nil))) (k_virt ok_Parser_fail mf_Parser_fail ⟨tw_777, tw_8⟩ rfl tw_775 d_Parser_understandRoad_24 (by decide) (by decide) (by decide))) s_skip) (s_seq (sl1 := [(0, 1), (1, 1), (2, 2), (4, 1)]) (p1 := 39) (s_decl (p1 := 37) (e_cI (p1 := 34) (a_cons (ι := Value.ref) (k0 := 1) (p1 := 28) (fun _ => rfl) (e_aload_n (k0 := 0) d_Parser_understandRoad_27 rfl rfl) (a_cons (ι := Value.int) (k0 := 1) (p1 := 31) (fun _ => rfl) (e_iadd (p1 := 29) (p2 := 30) (e_iload_n (k0 := 1) d_Parser_understandRoad_28 rfl rfl) (e_iconst d_Parser_understandRoad_29 (by decide)) d_Parser_understandRoad_30) (a_cons (ι := Value.int) (k0 := 1) (p1 := 32) (fun _ => rfl) (e_iconst d_Parser_understandRoad_31 (by decide)) (a_cons (ι := Value.int) (k0 := 1) (p1 := 34) (fun _ => rfl) (e_bipush d_Parser_understandRoad_32 (by decide)) a_nil)))) (k_virt ok_Parser_numberAt mf_Parser_numberAt ⟨tw_830, tw_19⟩ rfl tw_828 d_Parser_understandRoad_34 (by decide) (by decide) (by decide))) (t_istore d_Parser_understandRoad_37 (by decide)) rfl) (s_seq (sl1 := [(0, 1), (1, 1), (2, 2), (4, 1)]) (p1 := 101) (s_if (pt := 58) (pf := 101) (c_and (p1 := 46) (c_if_neF (p1 := 43) (tg := 101) (e_gI (k0 := 5) (p1 := 40) cf_3 (e_aload_n (k0 := 0) d_Parser_understandRoad_39 rfl rfl) (by decide) tw_278 d_Parser_understandRoad_40) d_Parser_understandRoad_43 rfl) (c_icmp_geF (p1 := 53) (p2 := 55) (tg := 101) (e_gI (k0 := 0) (p1 := 50) cf_2 (e_gR (k0 := 0) (p1 := 47) cf_3 (e_aload_n (k0 := 0) d_Parser_understandRoad_46 rfl rfl) (by decide) tw_271 d_Parser_understandRoad_47) (by decide) tw_202 d_Parser_understandRoad_50) (e_bipush d_Parser_understandRoad_53 (by decide)) d_Parser_understandRoad_55 rfl)) (s_seq (sl1 := [(0, 1), (1, 1), (2, 2), (4, 1)]) (p1 := 71) (s_astL (p1 := 62) (p2 := 69) (p3 := 70) (e_gR (k0 := 3) (p1 := 59) cf_3 (e_aload_n (k0 := 0) d_Parser_understandRoad_58 rfl rfl) (by decide) tw_276 d_Parser_understandRoad_59) (e_gI (k0 := 0) (p1 := 66) cf_2 (e_gR (k0 := 0) (p1 := 63) cf_3 (e_aload_n (k0 := 0) d_Parser_understandRoad_62 rfl rfl) (by decide) tw_271 d_Parser_understandRoad_63) (by decide) tw_202 d_Parser_understandRoad_66) (e_lload_n (k0 := 2) d_Parser_understandRoad_69 rfl rfl) d_Parser_understandRoad_70) (s_seq (sl1 := [(0, 1), (1, 1), (2, 2), (4, 1)]) (p1 := 88) (s_ast (p1 := 78) (p2 := 85) (p3 := 87) (e_gR (k0 := 3) (p1 := 75) cf_2 (e_gR (k0 := 0) (p1 := 72) cf_3 (e_aload_n (k0 := 0) d_Parser_understandRoad_71 rfl rfl) (by decide) tw_271 d_Parser_understandRoad_72) (by decide) tw_219 d_Parser_understandRoad_75) (e_gI (k0 := 0) (p1 := 82) cf_2 (e_gR (k0 := 0) (p1 := 79) cf_3 (e_aload_n (k0 := 0) d_Parser_understandRoad_78 rfl rfl) (by decide) tw_271 d_Parser_understandRoad_79) (by decide) tw_202 d_Parser_understandRoad_82) (e_iload (k0 := 3) d_Parser_understandRoad_85 rfl) (as_i d_Parser_understandRoad_87)) (s_fop (k0 := 0) (p1 := 92) (p2 := 97) cf_2 (e_gR (k0 := 0) (p1 := 89) cf_3 (e_aload_n (k0 := 0) d_Parser_understandRoad_88 rfl rfl) (by decide) tw_271 d_Parser_understandRoad_89) d_Parser_understandRoad_92 d_Parser_understandRoad_93 (e_iconst d_Parser_understandRoad_96 (by decide)) (op_iadd d_Parser_understandRoad_97) (by decide) rfl tw_202 tw_202 rfl d_Parser_understandRoad_98))) s_skip) (s_retV rfl d_Parser_understandRoad_101))))))
/-! BlinkerCross$Parser.roadAt(I)I -/
abbrev y_Parser_roadAt : MethodName := ⟨"BlinkerCross$Parser", "roadAt", "(I)I"⟩
abbrev Y_Parser_roadAt : Yt := (prog_6_method_15_code, 3, "BlinkerCross$Parser", 1, (some .int), "roadAt")
theorem d_Parser_roadAt_0 : decode prog_6_method_15_code 0 = .ok (.aload_n 0, 1) := by decide +kernel
theorem d_Parser_roadAt_1 : decode prog_6_method_15_code 1 = .ok (.aload_n 0, 1) := by decide +kernel
theorem d_Parser_roadAt_2 : decode prog_6_method_15_code 2 = .ok (.getfield 29, 3) := by decide +kernel
theorem d_Parser_roadAt_5 : decode prog_6_method_15_code 5 = .ok (.iload_n 1, 1) := by decide +kernel
theorem d_Parser_roadAt_6 : decode prog_6_method_15_code 6 = .ok (.invokevirtual 115, 3) := by decide +kernel
theorem d_Parser_roadAt_9 : decode prog_6_method_15_code 9 = .ok (.invokevirtual 164, 3) := by decide +kernel
theorem d_Parser_roadAt_12 : decode prog_6_method_15_code 12 = .ok (.istore_n 2, 1) := by decide +kernel
theorem d_Parser_roadAt_13 : decode prog_6_method_15_code 13 = .ok (.iload_n 2, 1) := by decide +kernel
theorem d_Parser_roadAt_14 : decode prog_6_method_15_code 14 = .ok (.ifCond .ge 9, 3) := by decide +kernel
theorem d_Parser_roadAt_17 : decode prog_6_method_15_code 17 = .ok (.aload_n 0, 1) := by decide +kernel
theorem d_Parser_roadAt_18 : decode prog_6_method_15_code 18 = .ok (.iconst 4, 1) := by decide +kernel
theorem d_Parser_roadAt_19 : decode prog_6_method_15_code 19 = .ok (.iload_n 1, 1) := by decide +kernel
theorem d_Parser_roadAt_20 : decode prog_6_method_15_code 20 = .ok (.invokevirtual 87, 3) := by decide +kernel
theorem d_Parser_roadAt_23 : decode prog_6_method_15_code 23 = .ok (.iload_n 2, 1) := by decide +kernel
theorem d_Parser_roadAt_24 : decode prog_6_method_15_code 24 = .ok (.ireturn, 1) := by decide +kernel
noncomputable def F_Parser_roadAt : Sm := sSeq (sDecl (asV Value.int (cI (mV 3 D_Parser_roadNamed) [asV Value.ref (vR 0), asV Value.long (cL (mV 1 D_Tape_valueAt) [asV Value.ref (gR 3 2 (vR 0)), asV Value.int (vI 1)])]))) (sSeq (sIf (o1 (fun x => decide (x < 0)) (vI 2)) (sCall (mV 3 D_Parser_fail) [asV Value.ref (vR 0), asV Value.int (kI (ii 4)), asV Value.int (vI 1)]) (sSkip)) (sRet (asV Value.int (vI 2))))
theorem mf_Parser_roadAt : Mf y_Parser_roadAt prog_6_method_15_code 3 (some .int) 1 := ⟨tw_839, tw_125, by decide +kernel⟩
noncomputable def D_Parser_roadAt : Dn := runS [1, 1] F_Parser_roadAt
theorem ok_Parser_roadAt : MOK y_Parser_roadAt prog_6_method_15_code 3 (some .int) 1 0 0 D_Parser_roadAt := MOK.of (by decide) (by decide) (show SO Y_Parser_roadAt [(0, 1), (1, 1)] [(0, 1), (1, 1), (2, 1)] 0 25 (([], 0), ([], 0)) F_Parser_roadAt from
  (s_seq (sl1 := [(0, 1), (1, 1), (2, 1)]) (p1 := 13) (s_decl (p1 := 12) (e_cI (p1 := 9) (a_cons (ι := Value.ref) (k0 := 1) (p1 := 1) (fun _ => rfl) (e_aload_n (k0 := 0) d_Parser_roadAt_0 rfl rfl) (a_cons (ι := Value.long) (k0 := 2) (p1 := 9) (fun _ => rfl) (e_cL (p1 := 6) (a_cons (ι := Value.ref) (k0 := 1) (p1 := 5) (fun _ => rfl) (e_gR (k0 := 2) (p1 := 2) cf_3 (e_aload_n (k0 := 0) d_Parser_roadAt_1 rfl rfl) (by decide) tw_275 d_Parser_roadAt_2) (a_cons (ι := Value.int) (k0 := 1) (p1 := 6) (fun _ => rfl) (e_iload_n (k0 := 1) d_Parser_roadAt_5 rfl rfl) a_nil)) (k_virt ok_Tape_valueAt mf_Tape_valueAt ⟨tw_800, tw_801⟩ rfl tw_799 d_Parser_roadAt_6 (by decide) (by decide) (by decide))) a_nil)) (k_virt ok_Parser_roadNamed mf_Parser_roadNamed ⟨tw_822, tw_17⟩ rfl tw_820 d_Parser_roadAt_9 (by decide) (by decide) (by decide))) (t_istore_n d_Parser_roadAt_12 rfl (by decide)) rfl) (s_seq (sl1 := [(0, 1), (1, 1), (2, 1)]) (p1 := 23) (s_if (pt := 17) (pf := 23) (c_if_geF (p1 := 14) (tg := 23) (e_iload_n (k0 := 2) d_Parser_roadAt_13 rfl rfl) d_Parser_roadAt_14 rfl) (s_call (p1 := 20) (a_cons (ι := Value.ref) (k0 := 1) (p1 := 18) (fun _ => rfl) (e_aload_n (k0 := 0) d_Parser_roadAt_17 rfl rfl) (a_cons (ι := Value.int) (k0 := 1) (p1 := 19) (fun _ => rfl) (e_iconst d_Parser_roadAt_18 (by decide)) (a_cons (ι := Value.int) (k0 := 1) (p1 := 20) (fun _ => rfl) (e_iload_n (k0 := 1) d_Parser_roadAt_19 rfl rfl) a_nil))) (k_virt ok_Parser_fail mf_Parser_fail ⟨tw_777, tw_8⟩ rfl tw_775 d_Parser_roadAt_20 (by decide) (by decide) (by decide))) s_skip) (s_ret (p1 := 24) (e_iload_n (k0 := 2) d_Parser_roadAt_23 rfl rfl) rfl d_Parser_roadAt_24))))
/-! BlinkerCross$Parser.understandGoer(I)V -/
abbrev y_Parser_understandGoer : MethodName := ⟨"BlinkerCross$Parser", "understandGoer", "(I)V"⟩
abbrev Y_Parser_understandGoer : Yt := (prog_6_method_13_code, 6, "BlinkerCross$Parser", 2, none, "understandGoer")
theorem d_Parser_understandGoer_0 : decode prog_6_method_13_code 0 = .ok (.aload_n 0, 1) := by decide +kernel
theorem d_Parser_understandGoer_1 : decode prog_6_method_13_code 1 = .ok (.getfield 29, 3) := by decide +kernel
theorem d_Parser_understandGoer_4 : decode prog_6_method_13_code 4 = .ok (.iload_n 1, 1) := by decide +kernel
theorem d_Parser_understandGoer_5 : decode prog_6_method_13_code 5 = .ok (.iconst 1, 1) := by decide +kernel
theorem d_Parser_understandGoer_6 : decode prog_6_method_13_code 6 = .ok (.iadd, 1) := by decide +kernel
theorem d_Parser_understandGoer_7 : decode prog_6_method_13_code 7 = .ok (.invokevirtual 115, 3) := by decide +kernel
theorem d_Parser_understandGoer_10 : decode prog_6_method_13_code 10 = .ok (.lstore_n 2, 1) := by decide +kernel
theorem d_Parser_understandGoer_11 : decode prog_6_method_13_code 11 = .ok (.aload_n 0, 1) := by decide +kernel
theorem d_Parser_understandGoer_12 : decode prog_6_method_13_code 12 = .ok (.lload_n 2, 1) := by decide +kernel
theorem d_Parser_understandGoer_13 : decode prog_6_method_13_code 13 = .ok (.invokevirtual 131, 3) := by decide +kernel
theorem d_Parser_understandGoer_16 : decode prog_6_method_13_code 16 = .ok (.ifCond .eq 11, 3) := by decide +kernel
theorem d_Parser_understandGoer_19 : decode prog_6_method_13_code 19 = .ok (.aload_n 0, 1) := by decide +kernel
theorem d_Parser_understandGoer_20 : decode prog_6_method_13_code 20 = .ok (.iconst 3, 1) := by decide +kernel
theorem d_Parser_understandGoer_21 : decode prog_6_method_13_code 21 = .ok (.iload_n 1, 1) := by decide +kernel
theorem d_Parser_understandGoer_22 : decode prog_6_method_13_code 22 = .ok (.iconst 1, 1) := by decide +kernel
theorem d_Parser_understandGoer_23 : decode prog_6_method_13_code 23 = .ok (.iadd, 1) := by decide +kernel
theorem d_Parser_understandGoer_24 : decode prog_6_method_13_code 24 = .ok (.invokevirtual 87, 3) := by decide +kernel
theorem d_Parser_understandGoer_27 : decode prog_6_method_13_code 27 = .ok (.aload_n 0, 1) := by decide +kernel
theorem d_Parser_understandGoer_28 : decode prog_6_method_13_code 28 = .ok (.iload_n 1, 1) := by decide +kernel
theorem d_Parser_understandGoer_29 : decode prog_6_method_13_code 29 = .ok (.iconst 2, 1) := by decide +kernel
theorem d_Parser_understandGoer_30 : decode prog_6_method_13_code 30 = .ok (.iadd, 1) := by decide +kernel
theorem d_Parser_understandGoer_31 : decode prog_6_method_13_code 31 = .ok (.invokevirtual 145, 3) := by decide +kernel
theorem d_Parser_understandGoer_34 : decode prog_6_method_13_code 34 = .ok (.istore 4, 2) := by decide +kernel
theorem d_Parser_understandGoer_36 : decode prog_6_method_13_code 36 = .ok (.aload_n 0, 1) := by decide +kernel
theorem d_Parser_understandGoer_37 : decode prog_6_method_13_code 37 = .ok (.iload_n 1, 1) := by decide +kernel
theorem d_Parser_understandGoer_38 : decode prog_6_method_13_code 38 = .ok (.iconst 3, 1) := by decide +kernel
theorem d_Parser_understandGoer_39 : decode prog_6_method_13_code 39 = .ok (.iadd, 1) := by decide +kernel
theorem d_Parser_understandGoer_40 : decode prog_6_method_13_code 40 = .ok (.iconst 1, 1) := by decide +kernel
theorem d_Parser_understandGoer_41 : decode prog_6_method_13_code 41 = .ok (.bipush 6, 2) := by decide +kernel
theorem d_Parser_understandGoer_43 : decode prog_6_method_13_code 43 = .ok (.invokevirtual 135, 3) := by decide +kernel
theorem d_Parser_understandGoer_46 : decode prog_6_method_13_code 46 = .ok (.istore 5, 2) := by decide +kernel
theorem d_Parser_understandGoer_48 : decode prog_6_method_13_code 48 = .ok (.aload_n 0, 1) := by decide +kernel
theorem d_Parser_understandGoer_49 : decode prog_6_method_13_code 49 = .ok (.getfield 41, 3) := by decide +kernel
theorem d_Parser_understandGoer_52 : decode prog_6_method_13_code 52 = .ok (.ifCond .ne 74, 3) := by decide +kernel
theorem d_Parser_understandGoer_55 : decode prog_6_method_13_code 55 = .ok (.aload_n 0, 1) := by decide +kernel
theorem d_Parser_understandGoer_56 : decode prog_6_method_13_code 56 = .ok (.getfield 12, 3) := by decide +kernel
theorem d_Parser_understandGoer_59 : decode prog_6_method_13_code 59 = .ok (.getfield 148, 3) := by decide +kernel
theorem d_Parser_understandGoer_62 : decode prog_6_method_13_code 62 = .ok (.iconst 5, 1) := by decide +kernel
theorem d_Parser_understandGoer_63 : decode prog_6_method_13_code 63 = .ok (.if_icmp .ge 63, 3) := by decide +kernel
theorem d_Parser_understandGoer_66 : decode prog_6_method_13_code 66 = .ok (.aload_n 0, 1) := by decide +kernel
theorem d_Parser_understandGoer_67 : decode prog_6_method_13_code 67 = .ok (.getfield 26, 3) := by decide +kernel
theorem d_Parser_understandGoer_70 : decode prog_6_method_13_code 70 = .ok (.aload_n 0, 1) := by decide +kernel
theorem d_Parser_understandGoer_71 : decode prog_6_method_13_code 71 = .ok (.getfield 12, 3) := by decide +kernel
theorem d_Parser_understandGoer_74 : decode prog_6_method_13_code 74 = .ok (.getfield 148, 3) := by decide +kernel
theorem d_Parser_understandGoer_77 : decode prog_6_method_13_code 77 = .ok (.lload_n 2, 1) := by decide +kernel
theorem d_Parser_understandGoer_78 : decode prog_6_method_13_code 78 = .ok (.lastore, 1) := by decide +kernel
theorem d_Parser_understandGoer_79 : decode prog_6_method_13_code 79 = .ok (.aload_n 0, 1) := by decide +kernel
theorem d_Parser_understandGoer_80 : decode prog_6_method_13_code 80 = .ok (.getfield 12, 3) := by decide +kernel
theorem d_Parser_understandGoer_83 : decode prog_6_method_13_code 83 = .ok (.getfield 151, 3) := by decide +kernel
theorem d_Parser_understandGoer_86 : decode prog_6_method_13_code 86 = .ok (.aload_n 0, 1) := by decide +kernel
theorem d_Parser_understandGoer_87 : decode prog_6_method_13_code 87 = .ok (.getfield 12, 3) := by decide +kernel
theorem d_Parser_understandGoer_90 : decode prog_6_method_13_code 90 = .ok (.getfield 148, 3) := by decide +kernel
theorem d_Parser_understandGoer_93 : decode prog_6_method_13_code 93 = .ok (.iload 4, 2) := by decide +kernel
theorem d_Parser_understandGoer_95 : decode prog_6_method_13_code 95 = .ok (.iastore, 1) := by decide +kernel
theorem d_Parser_understandGoer_96 : decode prog_6_method_13_code 96 = .ok (.aload_n 0, 1) := by decide +kernel
theorem d_Parser_understandGoer_97 : decode prog_6_method_13_code 97 = .ok (.getfield 12, 3) := by decide +kernel
theorem d_Parser_understandGoer_100 : decode prog_6_method_13_code 100 = .ok (.getfield 154, 3) := by decide +kernel
theorem d_Parser_understandGoer_103 : decode prog_6_method_13_code 103 = .ok (.aload_n 0, 1) := by decide +kernel
theorem d_Parser_understandGoer_104 : decode prog_6_method_13_code 104 = .ok (.getfield 12, 3) := by decide +kernel
theorem d_Parser_understandGoer_107 : decode prog_6_method_13_code 107 = .ok (.getfield 148, 3) := by decide +kernel
theorem d_Parser_understandGoer_110 : decode prog_6_method_13_code 110 = .ok (.iload 5, 2) := by decide +kernel
theorem d_Parser_understandGoer_112 : decode prog_6_method_13_code 112 = .ok (.iastore, 1) := by decide +kernel
theorem d_Parser_understandGoer_113 : decode prog_6_method_13_code 113 = .ok (.aload_n 0, 1) := by decide +kernel
theorem d_Parser_understandGoer_114 : decode prog_6_method_13_code 114 = .ok (.getfield 12, 3) := by decide +kernel
theorem d_Parser_understandGoer_117 : decode prog_6_method_13_code 117 = .ok (.dup, 1) := by decide +kernel
theorem d_Parser_understandGoer_118 : decode prog_6_method_13_code 118 = .ok (.getfield 148, 3) := by decide +kernel
theorem d_Parser_understandGoer_121 : decode prog_6_method_13_code 121 = .ok (.iconst 1, 1) := by decide +kernel
theorem d_Parser_understandGoer_122 : decode prog_6_method_13_code 122 = .ok (.iadd, 1) := by decide +kernel
theorem d_Parser_understandGoer_123 : decode prog_6_method_13_code 123 = .ok (.putfield 148, 3) := by decide +kernel
theorem d_Parser_understandGoer_126 : decode prog_6_method_13_code 126 = .ok (.return_, 1) := by decide +kernel
noncomputable def F_Parser_understandGoer : Sm := sSeq (sDecl (asV Value.long (cL (mV 1 D_Tape_valueAt) [asV Value.ref (gR 3 2 (vR 0)), asV Value.int (o2 (fun x y => x + y) (vI 1) (kI (ii 1)))]))) (sSeq (sIf (o1 (fun x => decide (x ≠ 0)) (cI (mV 3 D_Parser_isTold) [asV Value.ref (vR 0), asV Value.long (vL 2)])) (sCall (mV 3 D_Parser_fail) [asV Value.ref (vR 0), asV Value.int (kI (ii 3)), asV Value.int (o2 (fun x y => x + y) (vI 1) (kI (ii 1)))]) (sSkip)) (sSeq (sDecl (asV Value.int (cI (mV 3 D_Parser_roadAt) [asV Value.ref (vR 0), asV Value.int (o2 (fun x y => x + y) (vI 1) (kI (ii 2)))]))) (sSeq (sDecl (asV Value.int (cI (mV 3 D_Parser_numberAt) [asV Value.ref (vR 0), asV Value.int (o2 (fun x y => x + y) (vI 1) (kI (ii 3))), asV Value.int (kI (ii 1)), asV Value.int (kI (ii 6))]))) (sSeq (sIf (cAnd (o1 (fun x => decide (x = 0)) (gI 3 5 (vR 0))) (o2 (fun x y => decide (x < y)) (gI 2 1 (gR 3 0 (vR 0))) (kI (ii 5)))) (sSeq (sAstL (gR 3 4 (vR 0)) (gI 2 1 (gR 3 0 (vR 0))) (vL 2)) (sSeq (sAst 0 (gR 2 4 (gR 3 0 (vR 0))) (gI 2 1 (gR 3 0 (vR 0))) (vI 3)) (sSeq (sAst 0 (gR 2 5 (gR 3 0 (vR 0))) (gI 2 1 (gR 3 0 (vR 0))) (vI 4)) (sFop 2 1 (gR 3 0 (vR 0)) (fun x y => x + y) (kI (ii 1)))))) (sSkip)) (sRetV)))))
theorem mf_Parser_understandGoer : Mf y_Parser_understandGoer prog_6_method_13_code 6 none 1 := ⟨tw_835, tw_125, by decide +kernel⟩
noncomputable def D_Parser_understandGoer : Dn := runS [1, 1] F_Parser_understandGoer
theorem ok_Parser_understandGoer : MOK y_Parser_understandGoer prog_6_method_13_code 6 none 2 0 0 D_Parser_understandGoer := MOK.of (by decide) (by decide) (show SO Y_Parser_understandGoer [(0, 1), (1, 1)] [(0, 1), (1, 1), (2, 2), (4, 1), (5, 1)] 0 127 (([], 0), ([], 0)) F_Parser_understandGoer from
  (s_seq (sl1 := [(0, 1), (1, 1), (2, 2)]) (p1 := 11) (s_decl (p1 := 10) (e_cL (p1 := 7) (a_cons (ι := Value.ref) (k0 := 1) (p1 := 4) (fun _ => rfl) (e_gR (k0 := 2) (p1 := 1) cf_3 (e_aload_n (k0 := 0) d_Parser_understandGoer_0 rfl rfl) (by decide) tw_275 d_Parser_understandGoer_1) (a_cons (ι := Value.int) (k0 := 1) (p1 := 7) (fun _ => rfl) (e_iadd (p1 := 5) (p2 := 6) (e_iload_n (k0 := 1) d_Parser_understandGoer_4 rfl rfl) (e_iconst d_Parser_understandGoer_5 (by decide)) d_Parser_understandGoer_6) a_nil)) (k_virt ok_Tape_valueAt mf_Tape_valueAt ⟨tw_800, tw_801⟩ rfl tw_799 d_Parser_understandGoer_7 (by decide) (by decide) (by decide))) (t_lstore_n d_Parser_understandGoer_10 rfl (by decide)) rfl) (s_seq (sl1 := [(0, 1), (1, 1), (2, 2)]) (p1 := 27) (s_if (pt := 19) (pf := 27) (c_if_eqF (p1 := 16) (tg := 27) (e_cI (p1 := 13) (a_cons (ι := Value.ref) (k0 := 1) (p1 := 12) (fun _ => rfl) (e_aload_n (k0 := 0) d_Parser_understandGoer_11 rfl rfl) (a_cons (ι := Value.long) (k0 := 2) (p1 := 13) (fun _ => rfl) (e_lload_n (k0 := 2) d_Parser_understandGoer_12 rfl rfl) a_nil)) (k_virt ok_Parser_isTold mf_Parser_isTold ⟨tw_818, tw_16⟩ rfl tw_816 d_Parser_understandGoer_13 (by decide) (by decide) (by decide))) d_Parser_understandGoer_16 rfl) (s_call (p1 := 24) (a_cons (ι := Value.ref) (k0 := 1) (p1 := 20) (fun _ => rfl) (e_aload_n (k0 := 0) d_Parser_understandGoer_19 rfl rfl) (a_cons (ι := Value.int) (k0 := 1) (p1 := 21) (fun _ => rfl) (e_iconst d_Parser_understandGoer_20 (by decide)) (a_cons (ι := Value.int) (k0 := 1) (p1 := 24) (fun _ => rfl) (e_iadd (p1 := 22) (p2 := 23) (e_iload_n (k0 := 1) d_Parser_understandGoer_21 rfl rfl) (e_iconst d_Parser_understandGoer_22 (by decide)) d_Parser_understandGoer_23) a_nil))) (k_virt ok_Parser_fail mf_Parser_fail ⟨tw_777, tw_8⟩ rfl tw_775 d_Parser_understandGoer_24 (by decide) (by decide) (by decide))) s_skip) (s_seq (sl1 := [(0, 1), (1, 1), (2, 2), (4, 1)]) (p1 := 36) (s_decl (p1 := 34) (e_cI (p1 := 31) (a_cons (ι := Value.ref) (k0 := 1) (p1 := 28) (fun _ => rfl) (e_aload_n (k0 := 0) d_Parser_understandGoer_27 rfl rfl) (a_cons (ι := Value.int) (k0 := 1) (p1 := 31) (fun _ => rfl) (e_iadd (p1 := 29) (p2 := 30) (e_iload_n (k0 := 1) d_Parser_understandGoer_28 rfl rfl) (e_iconst d_Parser_understandGoer_29 (by decide)) d_Parser_understandGoer_30) a_nil)) (k_virt ok_Parser_roadAt mf_Parser_roadAt ⟨tw_838, tw_21⟩ rfl tw_836 d_Parser_understandGoer_31 (by decide) (by decide) (by decide))) (t_istore d_Parser_understandGoer_34 (by decide)) rfl) (s_seq (sl1 := [(0, 1), (1, 1), (2, 2), (4, 1), (5, 1)]) (p1 := 48) (s_decl (p1 := 46) (e_cI (p1 := 43) (a_cons (ι := Value.ref) (k0 := 1) (p1 := 37) (fun _ => rfl) (e_aload_n (k0 := 0) d_Parser_understandGoer_36 rfl rfl) (a_cons (ι := Value.int) (k0 := 1) (p1 := 40) (fun _ => rfl) (e_iadd (p1 := 38) (p2 := 39) (e_iload_n (k0 := 1) d_Parser_understandGoer_37 rfl rfl) (e_iconst d_Parser_understandGoer_38 (by decide)) d_Parser_understandGoer_39) (a_cons (ι := Value.int) (k0 := 1) (p1 := 41) (fun _ => rfl) (e_iconst d_Parser_understandGoer_40 (by decide)) (a_cons (ι := Value.int) (k0 := 1) (p1 := 43) (fun _ => rfl) (e_bipush d_Parser_understandGoer_41 (by decide)) a_nil)))) (k_virt ok_Parser_numberAt mf_Parser_numberAt ⟨tw_830, tw_19⟩ rfl tw_828 d_Parser_understandGoer_43 (by decide) (by decide) (by decide))) (t_istore d_Parser_understandGoer_46 (by decide)) rfl) (s_seq (sl1 := [(0, 1), (1, 1), (2, 2), (4, 1), (5, 1)]) (p1 := 126) (s_if (pt := 66) (pf := 126) (c_and (p1 := 55) (c_if_neF (p1 := 52) (tg := 126) (e_gI (k0 := 5) (p1 := 49) cf_3 (e_aload_n (k0 := 0) d_Parser_understandGoer_48 rfl rfl) (by decide) tw_278 d_Parser_understandGoer_49) d_Parser_understandGoer_52 rfl) (c_icmp_geF (p1 := 62) (p2 := 63) (tg := 126) (e_gI (k0 := 1) (p1 := 59) cf_2 (e_gR (k0 := 0) (p1 := 56) cf_3 (e_aload_n (k0 := 0) d_Parser_understandGoer_55 rfl rfl) (by decide) tw_271 d_Parser_understandGoer_56) (by decide) tw_212 d_Parser_understandGoer_59) (e_iconst d_Parser_understandGoer_62 (by decide)) d_Parser_understandGoer_63 rfl)) (s_seq (sl1 := [(0, 1), (1, 1), (2, 2), (4, 1), (5, 1)]) (p1 := 79) (s_astL (p1 := 70) (p2 := 77) (p3 := 78) (e_gR (k0 := 4) (p1 := 67) cf_3 (e_aload_n (k0 := 0) d_Parser_understandGoer_66 rfl rfl) (by decide) tw_277 d_Parser_understandGoer_67) (e_gI (k0 := 1) (p1 := 74) cf_2 (e_gR (k0 := 0) (p1 := 71) cf_3 (e_aload_n (k0 := 0) d_Parser_understandGoer_70 rfl rfl) (by decide) tw_271 d_Parser_understandGoer_71) (by decide) tw_212 d_Parser_understandGoer_74) (e_lload_n (k0 := 2) d_Parser_understandGoer_77 rfl rfl) d_Parser_understandGoer_78) (s_seq (sl1 := [(0, 1), (1, 1), (2, 2), (4, 1), (5, 1)]) (p1 := 96) (s_ast (p1 := 86) (p2 := 93) (p3 := 95) (e_gR (k0 := 4) (p1 := 83) cf_2 (e_gR (k0 := 0) (p1 := 80) cf_3 (e_aload_n (k0 := 0) d_Parser_understandGoer_79 rfl rfl) (by decide) tw_271 d_Parser_understandGoer_80) (by decide) tw_223 d_Parser_understandGoer_83) (e_gI (k0 := 1) (p1 := 90) cf_2 (e_gR (k0 := 0) (p1 := 87) cf_3 (e_aload_n (k0 := 0) d_Parser_understandGoer_86 rfl rfl) (by decide) tw_271 d_Parser_understandGoer_87) (by decide) tw_212 d_Parser_understandGoer_90) (e_iload (k0 := 3) d_Parser_understandGoer_93 rfl) (as_i d_Parser_understandGoer_95)) (s_seq (sl1 := [(0, 1), (1, 1), (2, 2), (4, 1), (5, 1)]) (p1 := 113) (s_ast (p1 := 103) (p2 := 110) (p3 := 112) (e_gR (k0 := 5) (p1 := 100) cf_2 (e_gR (k0 := 0) (p1 := 97) cf_3 (e_aload_n (k0 := 0) d_Parser_understandGoer_96 rfl rfl) (by decide) tw_271 d_Parser_understandGoer_97) (by decide) tw_226 d_Parser_understandGoer_100) (e_gI (k0 := 1) (p1 := 107) cf_2 (e_gR (k0 := 0) (p1 := 104) cf_3 (e_aload_n (k0 := 0) d_Parser_understandGoer_103 rfl rfl) (by decide) tw_271 d_Parser_understandGoer_104) (by decide) tw_212 d_Parser_understandGoer_107) (e_iload (k0 := 4) d_Parser_understandGoer_110 rfl) (as_i d_Parser_understandGoer_112)) (s_fop (k0 := 1) (p1 := 117) (p2 := 122) cf_2 (e_gR (k0 := 0) (p1 := 114) cf_3 (e_aload_n (k0 := 0) d_Parser_understandGoer_113 rfl rfl) (by decide) tw_271 d_Parser_understandGoer_114) d_Parser_understandGoer_117 d_Parser_understandGoer_118 (e_iconst d_Parser_understandGoer_121 (by decide)) (op_iadd d_Parser_understandGoer_122) (by decide) rfl tw_212 tw_212 rfl d_Parser_understandGoer_123)))) s_skip) (s_retV rfl d_Parser_understandGoer_126)))))))
/-! BlinkerCross$Parser.understandWants(I)V -/
abbrev y_Parser_understandWants : MethodName := ⟨"BlinkerCross$Parser", "understandWants", "(I)V"⟩
abbrev Y_Parser_understandWants : Yt := (prog_6_method_14_code, 5, "BlinkerCross$Parser", 2, none, "understandWants")
theorem d_Parser_understandWants_0 : decode prog_6_method_14_code 0 = .ok (.aload_n 0, 1) := by decide +kernel
theorem d_Parser_understandWants_1 : decode prog_6_method_14_code 1 = .ok (.aload_n 0, 1) := by decide +kernel
theorem d_Parser_understandWants_2 : decode prog_6_method_14_code 2 = .ok (.getfield 29, 3) := by decide +kernel
theorem d_Parser_understandWants_5 : decode prog_6_method_14_code 5 = .ok (.iload_n 1, 1) := by decide +kernel
theorem d_Parser_understandWants_6 : decode prog_6_method_14_code 6 = .ok (.iconst 1, 1) := by decide +kernel
theorem d_Parser_understandWants_7 : decode prog_6_method_14_code 7 = .ok (.iadd, 1) := by decide +kernel
theorem d_Parser_understandWants_8 : decode prog_6_method_14_code 8 = .ok (.invokevirtual 115, 3) := by decide +kernel
theorem d_Parser_understandWants_11 : decode prog_6_method_14_code 11 = .ok (.invokevirtual 157, 3) := by decide +kernel
theorem d_Parser_understandWants_14 : decode prog_6_method_14_code 14 = .ok (.istore_n 2, 1) := by decide +kernel
theorem d_Parser_understandWants_15 : decode prog_6_method_14_code 15 = .ok (.iload_n 2, 1) := by decide +kernel
theorem d_Parser_understandWants_16 : decode prog_6_method_14_code 16 = .ok (.ifCond .ge 11, 3) := by decide +kernel
theorem d_Parser_understandWants_19 : decode prog_6_method_14_code 19 = .ok (.aload_n 0, 1) := by decide +kernel
theorem d_Parser_understandWants_20 : decode prog_6_method_14_code 20 = .ok (.iconst 4, 1) := by decide +kernel
theorem d_Parser_understandWants_21 : decode prog_6_method_14_code 21 = .ok (.iload_n 1, 1) := by decide +kernel
theorem d_Parser_understandWants_22 : decode prog_6_method_14_code 22 = .ok (.iconst 1, 1) := by decide +kernel
theorem d_Parser_understandWants_23 : decode prog_6_method_14_code 23 = .ok (.iadd, 1) := by decide +kernel
theorem d_Parser_understandWants_24 : decode prog_6_method_14_code 24 = .ok (.invokevirtual 87, 3) := by decide +kernel
theorem d_Parser_understandWants_27 : decode prog_6_method_14_code 27 = .ok (.aload_n 0, 1) := by decide +kernel
theorem d_Parser_understandWants_28 : decode prog_6_method_14_code 28 = .ok (.iload_n 1, 1) := by decide +kernel
theorem d_Parser_understandWants_29 : decode prog_6_method_14_code 29 = .ok (.iconst 2, 1) := by decide +kernel
theorem d_Parser_understandWants_30 : decode prog_6_method_14_code 30 = .ok (.iadd, 1) := by decide +kernel
theorem d_Parser_understandWants_31 : decode prog_6_method_14_code 31 = .ok (.invokevirtual 145, 3) := by decide +kernel
theorem d_Parser_understandWants_34 : decode prog_6_method_14_code 34 = .ok (.istore_n 3, 1) := by decide +kernel
theorem d_Parser_understandWants_35 : decode prog_6_method_14_code 35 = .ok (.aload_n 0, 1) := by decide +kernel
theorem d_Parser_understandWants_36 : decode prog_6_method_14_code 36 = .ok (.iload_n 1, 1) := by decide +kernel
theorem d_Parser_understandWants_37 : decode prog_6_method_14_code 37 = .ok (.iconst 3, 1) := by decide +kernel
theorem d_Parser_understandWants_38 : decode prog_6_method_14_code 38 = .ok (.iadd, 1) := by decide +kernel
theorem d_Parser_understandWants_39 : decode prog_6_method_14_code 39 = .ok (.iconst 0, 1) := by decide +kernel
theorem d_Parser_understandWants_40 : decode prog_6_method_14_code 40 = .ok (.bipush 99, 2) := by decide +kernel
theorem d_Parser_understandWants_42 : decode prog_6_method_14_code 42 = .ok (.invokevirtual 135, 3) := by decide +kernel
theorem d_Parser_understandWants_45 : decode prog_6_method_14_code 45 = .ok (.istore 4, 2) := by decide +kernel
theorem d_Parser_understandWants_47 : decode prog_6_method_14_code 47 = .ok (.aload_n 0, 1) := by decide +kernel
theorem d_Parser_understandWants_48 : decode prog_6_method_14_code 48 = .ok (.getfield 41, 3) := by decide +kernel
theorem d_Parser_understandWants_51 : decode prog_6_method_14_code 51 = .ok (.ifCond .ne 19, 3) := by decide +kernel
theorem d_Parser_understandWants_54 : decode prog_6_method_14_code 54 = .ok (.aload_n 0, 1) := by decide +kernel
theorem d_Parser_understandWants_55 : decode prog_6_method_14_code 55 = .ok (.getfield 12, 3) := by decide +kernel
theorem d_Parser_understandWants_58 : decode prog_6_method_14_code 58 = .ok (.getfield 161, 3) := by decide +kernel
theorem d_Parser_understandWants_61 : decode prog_6_method_14_code 61 = .ok (.iload_n 2, 1) := by decide +kernel
theorem d_Parser_understandWants_62 : decode prog_6_method_14_code 62 = .ok (.bipush 6, 2) := by decide +kernel
theorem d_Parser_understandWants_64 : decode prog_6_method_14_code 64 = .ok (.imul, 1) := by decide +kernel
theorem d_Parser_understandWants_65 : decode prog_6_method_14_code 65 = .ok (.iload_n 3, 1) := by decide +kernel
theorem d_Parser_understandWants_66 : decode prog_6_method_14_code 66 = .ok (.iadd, 1) := by decide +kernel
theorem d_Parser_understandWants_67 : decode prog_6_method_14_code 67 = .ok (.iload 4, 2) := by decide +kernel
theorem d_Parser_understandWants_69 : decode prog_6_method_14_code 69 = .ok (.iastore, 1) := by decide +kernel
theorem d_Parser_understandWants_70 : decode prog_6_method_14_code 70 = .ok (.return_, 1) := by decide +kernel
noncomputable def F_Parser_understandWants : Sm := sSeq (sDecl (asV Value.int (cI (mV 3 D_Parser_goerNamed) [asV Value.ref (vR 0), asV Value.long (cL (mV 1 D_Tape_valueAt) [asV Value.ref (gR 3 2 (vR 0)), asV Value.int (o2 (fun x y => x + y) (vI 1) (kI (ii 1)))])]))) (sSeq (sIf (o1 (fun x => decide (x < 0)) (vI 2)) (sCall (mV 3 D_Parser_fail) [asV Value.ref (vR 0), asV Value.int (kI (ii 4)), asV Value.int (o2 (fun x y => x + y) (vI 1) (kI (ii 1)))]) (sSkip)) (sSeq (sDecl (asV Value.int (cI (mV 3 D_Parser_roadAt) [asV Value.ref (vR 0), asV Value.int (o2 (fun x y => x + y) (vI 1) (kI (ii 2)))]))) (sSeq (sDecl (asV Value.int (cI (mV 3 D_Parser_numberAt) [asV Value.ref (vR 0), asV Value.int (o2 (fun x y => x + y) (vI 1) (kI (ii 3))), asV Value.int (kI (ii 0)), asV Value.int (kI (ii 99))]))) (sSeq (sIf (o1 (fun x => decide (x = 0)) (gI 3 5 (vR 0))) (sAst 0 (gR 2 6 (gR 3 0 (vR 0))) (o2 (fun x y => x + y) (o2 (fun x y => x * y) (vI 2) (kI (ii 6))) (vI 3)) (vI 4)) (sSkip)) (sRetV)))))
theorem mf_Parser_understandWants : Mf y_Parser_understandWants prog_6_method_14_code 5 none 1 := ⟨tw_843, tw_125, by decide +kernel⟩
noncomputable def D_Parser_understandWants : Dn := runS [1, 1] F_Parser_understandWants
theorem ok_Parser_understandWants : MOK y_Parser_understandWants prog_6_method_14_code 5 none 2 0 0 D_Parser_understandWants := MOK.of (by decide) (by decide) (show SO Y_Parser_understandWants [(0, 1), (1, 1)] [(0, 1), (1, 1), (2, 1), (3, 1), (4, 1)] 0 71 (([], 0), ([], 0)) F_Parser_understandWants from
  (s_seq (sl1 := [(0, 1), (1, 1), (2, 1)]) (p1 := 15) (s_decl (p1 := 14) (e_cI (p1 := 11) (a_cons (ι := Value.ref) (k0 := 1) (p1 := 1) (fun _ => rfl) (e_aload_n (k0 := 0) d_Parser_understandWants_0 rfl rfl) (a_cons (ι := Value.long) (k0 := 2) (p1 := 11) (fun _ => rfl) (e_cL (p1 := 8) (a_cons (ι := Value.ref) (k0 := 1) (p1 := 5) (fun _ => rfl) (e_gR (k0 := 2) (p1 := 2) cf_3 (e_aload_n (k0 := 0) d_Parser_understandWants_1 rfl rfl) (by decide) tw_275 d_Parser_understandWants_2) (a_cons (ι := Value.int) (k0 := 1) (p1 := 8) (fun _ => rfl) (e_iadd (p1 := 6) (p2 := 7) (e_iload_n (k0 := 1) d_Parser_understandWants_5 rfl rfl) (e_iconst d_Parser_understandWants_6 (by decide)) d_Parser_understandWants_7) a_nil)) (k_virt ok_Tape_valueAt mf_Tape_valueAt ⟨tw_800, tw_801⟩ rfl tw_799 d_Parser_understandWants_8 (by decide) (by decide) (by decide))) a_nil)) (k_virt ok_Parser_goerNamed mf_Parser_goerNamed ⟨tw_826, tw_18⟩ rfl tw_824 d_Parser_understandWants_11 (by decide) (by decide) (by decide))) (t_istore_n d_Parser_understandWants_14 rfl (by decide)) rfl) (s_seq (sl1 := [(0, 1), (1, 1), (2, 1)]) (p1 := 27) (s_if (pt := 19) (pf := 27) (c_if_geF (p1 := 16) (tg := 27) (e_iload_n (k0 := 2) d_Parser_understandWants_15 rfl rfl) d_Parser_understandWants_16 rfl) (s_call (p1 := 24) (a_cons (ι := Value.ref) (k0 := 1) (p1 := 20) (fun _ => rfl) (e_aload_n (k0 := 0) d_Parser_understandWants_19 rfl rfl) (a_cons (ι := Value.int) (k0 := 1) (p1 := 21) (fun _ => rfl) (e_iconst d_Parser_understandWants_20 (by decide)) (a_cons (ι := Value.int) (k0 := 1) (p1 := 24) (fun _ => rfl) (e_iadd (p1 := 22) (p2 := 23) (e_iload_n (k0 := 1) d_Parser_understandWants_21 rfl rfl) (e_iconst d_Parser_understandWants_22 (by decide)) d_Parser_understandWants_23) a_nil))) (k_virt ok_Parser_fail mf_Parser_fail ⟨tw_777, tw_8⟩ rfl tw_775 d_Parser_understandWants_24 (by decide) (by decide) (by decide))) s_skip) (s_seq (sl1 := [(0, 1), (1, 1), (2, 1), (3, 1)]) (p1 := 35) (s_decl (p1 := 34) (e_cI (p1 := 31) (a_cons (ι := Value.ref) (k0 := 1) (p1 := 28) (fun _ => rfl) (e_aload_n (k0 := 0) d_Parser_understandWants_27 rfl rfl) (a_cons (ι := Value.int) (k0 := 1) (p1 := 31) (fun _ => rfl) (e_iadd (p1 := 29) (p2 := 30) (e_iload_n (k0 := 1) d_Parser_understandWants_28 rfl rfl) (e_iconst d_Parser_understandWants_29 (by decide)) d_Parser_understandWants_30) a_nil)) (k_virt ok_Parser_roadAt mf_Parser_roadAt ⟨tw_838, tw_21⟩ rfl tw_836 d_Parser_understandWants_31 (by decide) (by decide) (by decide))) (t_istore_n d_Parser_understandWants_34 rfl (by decide)) rfl) (s_seq (sl1 := [(0, 1), (1, 1), (2, 1), (3, 1), (4, 1)]) (p1 := 47) (s_decl (p1 := 45) (e_cI (p1 := 42) (a_cons (ι := Value.ref) (k0 := 1) (p1 := 36) (fun _ => rfl) (e_aload_n (k0 := 0) d_Parser_understandWants_35 rfl rfl) (a_cons (ι := Value.int) (k0 := 1) (p1 := 39) (fun _ => rfl) (e_iadd (p1 := 37) (p2 := 38) (e_iload_n (k0 := 1) d_Parser_understandWants_36 rfl rfl) (e_iconst d_Parser_understandWants_37 (by decide)) d_Parser_understandWants_38) (a_cons (ι := Value.int) (k0 := 1) (p1 := 40) (fun _ => rfl) (e_iconst d_Parser_understandWants_39 (by decide)) (a_cons (ι := Value.int) (k0 := 1) (p1 := 42) (fun _ => rfl) (e_bipush d_Parser_understandWants_40 (by decide)) a_nil)))) (k_virt ok_Parser_numberAt mf_Parser_numberAt ⟨tw_830, tw_19⟩ rfl tw_828 d_Parser_understandWants_42 (by decide) (by decide) (by decide))) (t_istore d_Parser_understandWants_45 (by decide)) rfl) (s_seq (sl1 := [(0, 1), (1, 1), (2, 1), (3, 1), (4, 1)]) (p1 := 70) (s_if (pt := 54) (pf := 70) (c_if_neF (p1 := 51) (tg := 70) (e_gI (k0 := 5) (p1 := 48) cf_3 (e_aload_n (k0 := 0) d_Parser_understandWants_47 rfl rfl) (by decide) tw_278 d_Parser_understandWants_48) d_Parser_understandWants_51 rfl) (s_ast (p1 := 61) (p2 := 67) (p3 := 69) (e_gR (k0 := 6) (p1 := 58) cf_2 (e_gR (k0 := 0) (p1 := 55) cf_3 (e_aload_n (k0 := 0) d_Parser_understandWants_54 rfl rfl) (by decide) tw_271 d_Parser_understandWants_55) (by decide) tw_229 d_Parser_understandWants_58) (e_iadd (p1 := 65) (p2 := 66) (e_imul (p1 := 62) (p2 := 64) (e_iload_n (k0 := 2) d_Parser_understandWants_61 rfl rfl) (e_bipush d_Parser_understandWants_62 (by decide)) d_Parser_understandWants_64) (e_iload_n (k0 := 3) d_Parser_understandWants_65 rfl rfl) d_Parser_understandWants_66) (e_iload (k0 := 4) d_Parser_understandWants_67 rfl) (as_i d_Parser_understandWants_69)) s_skip) (s_retV rfl d_Parser_understandWants_70)))))))
/-! BlinkerCross$Parser.understand(I)V -/
abbrev y_Parser_understand : MethodName := ⟨"BlinkerCross$Parser", "understand", "(I)V"⟩
abbrev Y_Parser_understand : Yt := (prog_6_method_11_code, 2, "BlinkerCross$Parser", 3, none, "understand")
theorem d_Parser_understand_0 : decode prog_6_method_11_code 0 = .ok (.aload_n 0, 1) := by decide +kernel
theorem d_Parser_understand_1 : decode prog_6_method_11_code 1 = .ok (.getfield 29, 3) := by decide +kernel
theorem d_Parser_understand_4 : decode prog_6_method_11_code 4 = .ok (.iload_n 1, 1) := by decide +kernel
theorem d_Parser_understand_5 : decode prog_6_method_11_code 5 = .ok (.invokevirtual 50, 3) := by decide +kernel
theorem d_Parser_understand_8 : decode prog_6_method_11_code 8 = .ok (.tableswitch 93 0 7 #[48, 56, 64, 93, 93, 93, 93, 72], 48) := by decide +kernel
theorem d_Parser_understand_56 : decode prog_6_method_11_code 56 = .ok (.aload_n 0, 1) := by decide +kernel
theorem d_Parser_understand_57 : decode prog_6_method_11_code 57 = .ok (.iload_n 1, 1) := by decide +kernel
theorem d_Parser_understand_58 : decode prog_6_method_11_code 58 = .ok (.invokevirtual 119, 3) := by decide +kernel
theorem d_Parser_understand_61 : decode prog_6_method_11_code 61 = .ok (.goto 40, 3) := by decide +kernel
theorem d_Parser_understand_64 : decode prog_6_method_11_code 64 = .ok (.aload_n 0, 1) := by decide +kernel
theorem d_Parser_understand_65 : decode prog_6_method_11_code 65 = .ok (.iload_n 1, 1) := by decide +kernel
theorem d_Parser_understand_66 : decode prog_6_method_11_code 66 = .ok (.invokevirtual 122, 3) := by decide +kernel
theorem d_Parser_understand_69 : decode prog_6_method_11_code 69 = .ok (.goto 32, 3) := by decide +kernel
theorem d_Parser_understand_72 : decode prog_6_method_11_code 72 = .ok (.aload_n 0, 1) := by decide +kernel
theorem d_Parser_understand_73 : decode prog_6_method_11_code 73 = .ok (.iload_n 1, 1) := by decide +kernel
theorem d_Parser_understand_74 : decode prog_6_method_11_code 74 = .ok (.invokevirtual 125, 3) := by decide +kernel
theorem d_Parser_understand_77 : decode prog_6_method_11_code 77 = .ok (.goto 24, 3) := by decide +kernel
theorem d_Parser_understand_80 : decode prog_6_method_11_code 80 = .ok (.aload_n 0, 1) := by decide +kernel
theorem d_Parser_understand_81 : decode prog_6_method_11_code 81 = .ok (.getfield 12, 3) := by decide +kernel
theorem d_Parser_understand_84 : decode prog_6_method_11_code 84 = .ok (.aload_n 0, 1) := by decide +kernel
theorem d_Parser_understand_85 : decode prog_6_method_11_code 85 = .ok (.getfield 29, 3) := by decide +kernel
theorem d_Parser_understand_88 : decode prog_6_method_11_code 88 = .ok (.iload_n 1, 1) := by decide +kernel
theorem d_Parser_understand_89 : decode prog_6_method_11_code 89 = .ok (.iconst 1, 1) := by decide +kernel
theorem d_Parser_understand_90 : decode prog_6_method_11_code 90 = .ok (.iadd, 1) := by decide +kernel
theorem d_Parser_understand_91 : decode prog_6_method_11_code 91 = .ok (.invokevirtual 115, 3) := by decide +kernel
theorem d_Parser_understand_94 : decode prog_6_method_11_code 94 = .ok (.l2i, 1) := by decide +kernel
theorem d_Parser_understand_95 : decode prog_6_method_11_code 95 = .ok (.putfield 128, 3) := by decide +kernel
theorem d_Parser_understand_98 : decode prog_6_method_11_code 98 = .ok (.goto 3, 3) := by decide +kernel
theorem d_Parser_understand_101 : decode prog_6_method_11_code 101 = .ok (.return_, 1) := by decide +kernel
noncomputable def F_Parser_understand : Sm := sSeq (sSw (cI (mV 1 D_Tape_kindAt) [asV Value.ref (gR 3 2 (vR 0)), asV Value.int (vI 1)]) [(ii 0, sSeq (sCall (mV 3 D_Parser_understandRoad) [asV Value.ref (vR 0), asV Value.int (vI 1)]) (sBrk 2)), (ii 1, sSeq (sCall (mV 3 D_Parser_understandGoer) [asV Value.ref (vR 0), asV Value.int (vI 1)]) (sBrk 2)), (ii 2, sSeq (sCall (mV 3 D_Parser_understandWants) [asV Value.ref (vR 0), asV Value.int (vI 1)]) (sBrk 2)), (ii 7, sSeq (sPut 2 2 (gR 3 0 (vR 0)) (asV Value.int (o1 (fun x => x.toInt32) (cL (mV 1 D_Tape_valueAt) [asV Value.ref (gR 3 2 (vR 0)), asV Value.int (o2 (fun x y => x + y) (vI 1) (kI (ii 1)))])))) (sBrk 2))] (sBrk 2)) (sRetV)
theorem mf_Parser_understand : Mf y_Parser_understand prog_6_method_11_code 2 none 1 := ⟨tw_811, tw_125, by decide +kernel⟩
noncomputable def D_Parser_understand : Dn := runS [1, 1] F_Parser_understand
set_option maxRecDepth 100000 in
theorem ok_Parser_understand : MOK y_Parser_understand prog_6_method_11_code 2 none 3 0 0 D_Parser_understand := MOK.of (by decide) (by decide) (show SO Y_Parser_understand [(0, 1), (1, 1)] [(0, 1), (1, 1)] 0 102 (([], 0), ([], 0)) F_Parser_understand from
  (s_seq (sl1 := [(0, 1), (1, 1)]) (p1 := 101) (s_tab (p1 := 8) (P := [(ii 0, 56), (ii 1, 64), (ii 2, 72), (ii 7, 80)]) (pd := 101) (jc := ([], 0)) (dflt := 93) (lo := 0) (hi := 7) (offs := #[48, 56, 64, 93, 93, 93, 93, 72]) (len := 48) (e_cI (p1 := 5) (a_cons (ι := Value.ref) (k0 := 1) (p1 := 4) (fun _ => rfl) (e_gR (k0 := 2) (p1 := 1) cf_3 (e_aload_n (k0 := 0) d_Parser_understand_0 rfl rfl) (by decide) tw_275 d_Parser_understand_1) (a_cons (ι := Value.int) (k0 := 1) (p1 := 5) (fun _ => rfl) (e_iload_n (k0 := 1) d_Parser_understand_4 rfl rfl) a_nil)) (k_virt ok_Tape_kindAt mf_Tape_kindAt ⟨tw_764, tw_765⟩ rfl tw_763 d_Parser_understand_5 (by decide) (by decide) (by decide))) d_Parser_understand_8 (by decide) (by decide +kernel) ⟨rfl, (s_seq (sl1 := [(0, 1), (1, 1)]) (p1 := 101) (s_goto (p1 := 61) (s_call (p1 := 58) (a_cons (ι := Value.ref) (k0 := 1) (p1 := 57) (fun _ => rfl) (e_aload_n (k0 := 0) d_Parser_understand_56 rfl rfl) (a_cons (ι := Value.int) (k0 := 1) (p1 := 58) (fun _ => rfl) (e_iload_n (k0 := 1) d_Parser_understand_57 rfl rfl) a_nil)) (k_virt ok_Parser_understandRoad mf_Parser_understandRoad ⟨tw_814, tw_15⟩ rfl tw_812 d_Parser_understand_58 (by decide) (by decide) (by decide))) d_Parser_understand_61 rfl) (s_brk rfl)), ⟨rfl, (s_seq (sl1 := [(0, 1), (1, 1)]) (p1 := 101) (s_goto (p1 := 69) (s_call (p1 := 66) (a_cons (ι := Value.ref) (k0 := 1) (p1 := 65) (fun _ => rfl) (e_aload_n (k0 := 0) d_Parser_understand_64 rfl rfl) (a_cons (ι := Value.int) (k0 := 1) (p1 := 66) (fun _ => rfl) (e_iload_n (k0 := 1) d_Parser_understand_65 rfl rfl) a_nil)) (k_virt ok_Parser_understandGoer mf_Parser_understandGoer ⟨tw_834, tw_20⟩ rfl tw_832 d_Parser_understand_66 (by decide) (by decide) (by decide))) d_Parser_understand_69 rfl) (s_brk rfl)), ⟨rfl, (s_seq (sl1 := [(0, 1), (1, 1)]) (p1 := 101) (s_goto (p1 := 77) (s_call (p1 := 74) (a_cons (ι := Value.ref) (k0 := 1) (p1 := 73) (fun _ => rfl) (e_aload_n (k0 := 0) d_Parser_understand_72 rfl rfl) (a_cons (ι := Value.int) (k0 := 1) (p1 := 74) (fun _ => rfl) (e_iload_n (k0 := 1) d_Parser_understand_73 rfl rfl) a_nil)) (k_virt ok_Parser_understandWants mf_Parser_understandWants ⟨tw_842, tw_22⟩ rfl tw_840 d_Parser_understand_74 (by decide) (by decide) (by decide))) d_Parser_understand_77 rfl) (s_brk rfl)), ⟨rfl, (s_seq (sl1 := [(0, 1), (1, 1)]) (p1 := 101) (s_goto (p1 := 98) (s_put (k0 := 2) (p1 := 84) (p2 := 95) cf_2 (e_gR (k0 := 0) (p1 := 81) cf_3 (e_aload_n (k0 := 0) d_Parser_understand_80 rfl rfl) (by decide) tw_271 d_Parser_understand_81) (e_l2i (p1 := 94) (e_cL (p1 := 91) (a_cons (ι := Value.ref) (k0 := 1) (p1 := 88) (fun _ => rfl) (e_gR (k0 := 2) (p1 := 85) cf_3 (e_aload_n (k0 := 0) d_Parser_understand_84 rfl rfl) (by decide) tw_275 d_Parser_understand_85) (a_cons (ι := Value.int) (k0 := 1) (p1 := 91) (fun _ => rfl) (e_iadd (p1 := 89) (p2 := 90) (e_iload_n (k0 := 1) d_Parser_understand_88 rfl rfl) (e_iconst d_Parser_understand_89 (by decide)) d_Parser_understand_90) a_nil)) (k_virt ok_Tape_valueAt mf_Tape_valueAt ⟨tw_800, tw_801⟩ rfl tw_799 d_Parser_understand_91 (by decide) (by decide) (by decide))) d_Parser_understand_94) (by decide) fk_i tw_215 (Or.inl rfl) d_Parser_understand_95) d_Parser_understand_98 rfl) (s_brk rfl)), trivial⟩⟩⟩⟩ (s_brk rfl)) (s_retV rfl d_Parser_understand_101)))
/-! BlinkerCross$Parser.check()I -/
abbrev y_Parser_check : MethodName := ⟨"BlinkerCross$Parser", "check", "()I"⟩
abbrev Y_Parser_check : Yt := (prog_6_method_2_code, 2, "BlinkerCross$Parser", 34, (some .int), "check")
theorem d_Parser_check_0 : decode prog_6_method_2_code 0 = .ok (.aload_n 0, 1) := by decide +kernel
theorem d_Parser_check_1 : decode prog_6_method_2_code 1 = .ok (.getfield 12, 3) := by decide +kernel
theorem d_Parser_check_4 : decode prog_6_method_2_code 4 = .ok (.invokevirtual 33, 3) := by decide +kernel
theorem d_Parser_check_7 : decode prog_6_method_2_code 7 = .ok (.aload_n 0, 1) := by decide +kernel
theorem d_Parser_check_8 : decode prog_6_method_2_code 8 = .ok (.getfield 29, 3) := by decide +kernel
theorem d_Parser_check_11 : decode prog_6_method_2_code 11 = .ok (.invokevirtual 36, 3) := by decide +kernel
theorem d_Parser_check_14 : decode prog_6_method_2_code 14 = .ok (.aload_n 0, 1) := by decide +kernel
theorem d_Parser_check_15 : decode prog_6_method_2_code 15 = .ok (.iconst 0, 1) := by decide +kernel
theorem d_Parser_check_16 : decode prog_6_method_2_code 16 = .ok (.putfield 41, 3) := by decide +kernel
theorem d_Parser_check_19 : decode prog_6_method_2_code 19 = .ok (.aload_n 0, 1) := by decide +kernel
theorem d_Parser_check_20 : decode prog_6_method_2_code 20 = .ok (.iconst 0, 1) := by decide +kernel
theorem d_Parser_check_21 : decode prog_6_method_2_code 21 = .ok (.putfield 44, 3) := by decide +kernel
theorem d_Parser_check_24 : decode prog_6_method_2_code 24 = .ok (.aload_n 0, 1) := by decide +kernel
theorem d_Parser_check_25 : decode prog_6_method_2_code 25 = .ok (.iconst 0, 1) := by decide +kernel
theorem d_Parser_check_26 : decode prog_6_method_2_code 26 = .ok (.putfield 47, 3) := by decide +kernel
theorem d_Parser_check_29 : decode prog_6_method_2_code 29 = .ok (.aload_n 0, 1) := by decide +kernel
theorem d_Parser_check_30 : decode prog_6_method_2_code 30 = .ok (.aload_n 0, 1) := by decide +kernel
theorem d_Parser_check_31 : decode prog_6_method_2_code 31 = .ok (.getfield 29, 3) := by decide +kernel
theorem d_Parser_check_34 : decode prog_6_method_2_code 34 = .ok (.iconst 0, 1) := by decide +kernel
theorem d_Parser_check_35 : decode prog_6_method_2_code 35 = .ok (.invokevirtual 50, 3) := by decide +kernel
theorem d_Parser_check_38 : decode prog_6_method_2_code 38 = .ok (.putfield 54, 3) := by decide +kernel
theorem d_Parser_check_41 : decode prog_6_method_2_code 41 = .ok (.aload_n 0, 1) := by decide +kernel
theorem d_Parser_check_42 : decode prog_6_method_2_code 42 = .ok (.iconst 0, 1) := by decide +kernel
theorem d_Parser_check_43 : decode prog_6_method_2_code 43 = .ok (.putfield 57, 3) := by decide +kernel
theorem d_Parser_check_46 : decode prog_6_method_2_code 46 = .ok (.aload_n 0, 1) := by decide +kernel
theorem d_Parser_check_47 : decode prog_6_method_2_code 47 = .ok (.iconst 0, 1) := by decide +kernel
theorem d_Parser_check_48 : decode prog_6_method_2_code 48 = .ok (.putfield 60, 3) := by decide +kernel
theorem d_Parser_check_51 : decode prog_6_method_2_code 51 = .ok (.aload_n 0, 1) := by decide +kernel
theorem d_Parser_check_52 : decode prog_6_method_2_code 52 = .ok (.iconst 0, 1) := by decide +kernel
theorem d_Parser_check_53 : decode prog_6_method_2_code 53 = .ok (.putfield 63, 3) := by decide +kernel
theorem d_Parser_check_56 : decode prog_6_method_2_code 56 = .ok (.iconst 0, 1) := by decide +kernel
theorem d_Parser_check_57 : decode prog_6_method_2_code 57 = .ok (.istore_n 1, 1) := by decide +kernel
theorem d_Parser_check_58 : decode prog_6_method_2_code 58 = .ok (.iload_n 1, 1) := by decide +kernel
theorem d_Parser_check_59 : decode prog_6_method_2_code 59 = .ok (.sipush 400, 3) := by decide +kernel
theorem d_Parser_check_62 : decode prog_6_method_2_code 62 = .ok (.if_icmp .gt 29, 3) := by decide +kernel
theorem d_Parser_check_65 : decode prog_6_method_2_code 65 = .ok (.aload_n 0, 1) := by decide +kernel
theorem d_Parser_check_66 : decode prog_6_method_2_code 66 = .ok (.getfield 41, 3) := by decide +kernel
theorem d_Parser_check_69 : decode prog_6_method_2_code 69 = .ok (.ifCond .ne 22, 3) := by decide +kernel
theorem d_Parser_check_72 : decode prog_6_method_2_code 72 = .ok (.aload_n 0, 1) := by decide +kernel
theorem d_Parser_check_73 : decode prog_6_method_2_code 73 = .ok (.getfield 54, 3) := by decide +kernel
theorem d_Parser_check_76 : decode prog_6_method_2_code 76 = .ok (.bipush 31, 2) := by decide +kernel
theorem d_Parser_check_78 : decode prog_6_method_2_code 78 = .ok (.if_icmp .eq 13, 3) := by decide +kernel
theorem d_Parser_check_81 : decode prog_6_method_2_code 81 = .ok (.aload_n 0, 1) := by decide +kernel
theorem d_Parser_check_82 : decode prog_6_method_2_code 82 = .ok (.invokevirtual 66, 3) := by decide +kernel
theorem d_Parser_check_85 : decode prog_6_method_2_code 85 = .ok (.iinc 1 1, 3) := by decide +kernel
theorem d_Parser_check_88 : decode prog_6_method_2_code 88 = .ok (.goto (-30), 3) := by decide +kernel
theorem d_Parser_check_91 : decode prog_6_method_2_code 91 = .ok (.iconst 0, 1) := by decide +kernel
theorem d_Parser_check_92 : decode prog_6_method_2_code 92 = .ok (.istore_n 1, 1) := by decide +kernel
theorem d_Parser_check_93 : decode prog_6_method_2_code 93 = .ok (.iload_n 1, 1) := by decide +kernel
theorem d_Parser_check_94 : decode prog_6_method_2_code 94 = .ok (.aload_n 0, 1) := by decide +kernel
theorem d_Parser_check_95 : decode prog_6_method_2_code 95 = .ok (.getfield 47, 3) := by decide +kernel
theorem d_Parser_check_98 : decode prog_6_method_2_code 98 = .ok (.if_icmp .ge 21, 3) := by decide +kernel
theorem d_Parser_check_101 : decode prog_6_method_2_code 101 = .ok (.aload_n 0, 1) := by decide +kernel
theorem d_Parser_check_102 : decode prog_6_method_2_code 102 = .ok (.getfield 41, 3) := by decide +kernel
theorem d_Parser_check_105 : decode prog_6_method_2_code 105 = .ok (.ifCond .ne 14, 3) := by decide +kernel
theorem d_Parser_check_108 : decode prog_6_method_2_code 108 = .ok (.aload_n 0, 1) := by decide +kernel
theorem d_Parser_check_109 : decode prog_6_method_2_code 109 = .ok (.iload_n 1, 1) := by decide +kernel
theorem d_Parser_check_110 : decode prog_6_method_2_code 110 = .ok (.invokevirtual 69, 3) := by decide +kernel
theorem d_Parser_check_113 : decode prog_6_method_2_code 113 = .ok (.iinc 1 1, 3) := by decide +kernel
theorem d_Parser_check_116 : decode prog_6_method_2_code 116 = .ok (.goto (-23), 3) := by decide +kernel
theorem d_Parser_check_119 : decode prog_6_method_2_code 119 = .ok (.aload_n 0, 1) := by decide +kernel
theorem d_Parser_check_120 : decode prog_6_method_2_code 120 = .ok (.aload_n 0, 1) := by decide +kernel
theorem d_Parser_check_121 : decode prog_6_method_2_code 121 = .ok (.getfield 41, 3) := by decide +kernel
theorem d_Parser_check_124 : decode prog_6_method_2_code 124 = .ok (.ifCond .ne 7, 3) := by decide +kernel
theorem d_Parser_check_127 : decode prog_6_method_2_code 127 = .ok (.iconst (-1), 1) := by decide +kernel
theorem d_Parser_check_128 : decode prog_6_method_2_code 128 = .ok (.goto 14, 3) := by decide +kernel
theorem d_Parser_check_131 : decode prog_6_method_2_code 131 = .ok (.aload_n 0, 1) := by decide +kernel
theorem d_Parser_check_132 : decode prog_6_method_2_code 132 = .ok (.getfield 29, 3) := by decide +kernel
theorem d_Parser_check_135 : decode prog_6_method_2_code 135 = .ok (.aload_n 0, 1) := by decide +kernel
theorem d_Parser_check_136 : decode prog_6_method_2_code 136 = .ok (.getfield 44, 3) := by decide +kernel
theorem d_Parser_check_139 : decode prog_6_method_2_code 139 = .ok (.invokevirtual 73, 3) := by decide +kernel
theorem d_Parser_check_142 : decode prog_6_method_2_code 142 = .ok (.putfield 18, 3) := by decide +kernel
theorem d_Parser_check_145 : decode prog_6_method_2_code 145 = .ok (.aload_n 0, 1) := by decide +kernel
theorem d_Parser_check_146 : decode prog_6_method_2_code 146 = .ok (.getfield 41, 3) := by decide +kernel
theorem d_Parser_check_149 : decode prog_6_method_2_code 149 = .ok (.ireturn, 1) := by decide +kernel
noncomputable def Lc_Parser_check_1 : Xp Bool := cAnd (cAnd (o2 (fun x y => decide (x ≤ y)) (vI 1) (kI (ii 400))) (o1 (fun x => decide (x = 0)) (gI 3 5 (vR 0)))) (o2 (fun x y => decide (x ≠ y)) (gI 3 8 (vR 0)) (kI (ii 31)))
noncomputable def Lb_Parser_check_1 : Sm := sCall (mV 3 D_Parser_readTell) [asV Value.ref (vR 0)]
noncomputable def Lu_Parser_check_1 : Sm := sInc 1 (ii 1)
noncomputable def Lc_Parser_check_2 : Xp Bool := cAnd (o2 (fun x y => decide (x < y)) (vI 1) (gI 3 7 (vR 0))) (o1 (fun x => decide (x = 0)) (gI 3 5 (vR 0)))
noncomputable def Lb_Parser_check_2 : Sm := sCall (mV 3 D_Parser_understand) [asV Value.ref (vR 0), asV Value.int (vI 1)]
noncomputable def Lu_Parser_check_2 : Sm := sInc 1 (ii 1)
noncomputable def F_Parser_check : Sm := sSeq (sCall (mV 2 D_Text_clear) [asV Value.ref (gR 3 0 (vR 0))]) (sSeq (sCall (mV 1 D_Tape_split) [asV Value.ref (gR 3 2 (vR 0))]) (sSeq (sPut 3 5 (vR 0) (asV Value.int (kI (ii 0)))) (sSeq (sPut 3 6 (vR 0) (asV Value.int (kI (ii 0)))) (sSeq (sPut 3 7 (vR 0) (asV Value.int (kI (ii 0)))) (sSeq (sPut 3 8 (vR 0) (asV Value.int (cI (mV 1 D_Tape_kindAt) [asV Value.ref (gR 3 2 (vR 0)), asV Value.int (kI (ii 0))]))) (sSeq (sPut 3 9 (vR 0) (asV Value.int (kI (ii 0)))) (sSeq (sPut 3 10 (vR 0) (asV Value.int (kI (ii 0)))) (sSeq (sPut 3 11 (vR 0) (asV Value.int (kI (ii 0)))) (sSeq (sBlk 1 (sSeq (sDecl (asV Value.int (kI (ii 0)))) (sWh (Lc_Parser_check_1) (Lb_Parser_check_1) Lu_Parser_check_1))) (sSeq (sBlk 1 (sSeq (sDecl (asV Value.int (kI (ii 0)))) (sWh (Lc_Parser_check_2) (Lb_Parser_check_2) Lu_Parser_check_2))) (sSeq (sPut 3 1 (vR 0) (asV Value.int (iX (o1 (fun x => decide (x = 0)) (gI 3 5 (vR 0))) (kI (ii (-1))) (cI (mV 1 D_Tape_placeAt) [asV Value.ref (gR 3 2 (vR 0)), asV Value.int (gI 3 6 (vR 0))])))) (sRet (asV Value.int (gI 3 5 (vR 0)))))))))))))))
theorem mf_Parser_check : Mf y_Parser_check prog_6_method_2_code 2 (some .int) 0 := ⟨tw_618, tw_125, by decide +kernel⟩
noncomputable def D_Parser_check : Dn := runS [1] F_Parser_check
theorem ok_Parser_check : MOK y_Parser_check prog_6_method_2_code 2 (some .int) 34 0 0 D_Parser_check := MOK.of (by decide) (by decide) (show SO Y_Parser_check [(0, 1)] [(0, 1)] 0 150 (([], 0), ([], 0)) F_Parser_check from
  (s_seq (sl1 := [(0, 1)]) (p1 := 7) (s_call (p1 := 4) (a_cons (ι := Value.ref) (k0 := 1) (p1 := 4) (fun _ => rfl) (e_gR (k0 := 0) (p1 := 1) cf_3 (e_aload_n (k0 := 0) d_Parser_check_0 rfl rfl) (by decide) tw_271 d_Parser_check_1) a_nil) (k_virt ok_Text_clear mf_Text_clear ⟨tw_185, tw_186⟩ rfl tw_619 d_Parser_check_4 (by decide) (by decide) (by decide))) (s_seq (sl1 := [(0, 1)]) (p1 := 14) (s_call (p1 := 11) (a_cons (ι := Value.ref) (k0 := 1) (p1 := 11) (fun _ => rfl) (e_gR (k0 := 2) (p1 := 8) cf_3 (e_aload_n (k0 := 0) d_Parser_check_7 rfl rfl) (by decide) tw_275 d_Parser_check_8) a_nil) (k_virt ok_Tape_split mf_Tape_split ⟨tw_621, tw_622⟩ rfl tw_620 d_Parser_check_11 (by decide) (by decide) (by decide))) (s_seq (sl1 := [(0, 1)]) (p1 := 19) (s_put (k0 := 5) (p1 := 15) (p2 := 16) cf_3 (e_aload_n (k0 := 0) d_Parser_check_14 rfl rfl) (e_iconst d_Parser_check_15 (by decide)) (by decide) fk_i tw_278 (Or.inl rfl) d_Parser_check_16) (s_seq (sl1 := [(0, 1)]) (p1 := 24) (s_put (k0 := 6) (p1 := 20) (p2 := 21) cf_3 (e_aload_n (k0 := 0) d_Parser_check_19 rfl rfl) (e_iconst d_Parser_check_20 (by decide)) (by decide) fk_i tw_279 (Or.inl rfl) d_Parser_check_21) (s_seq (sl1 := [(0, 1)]) (p1 := 29) (s_put (k0 := 7) (p1 := 25) (p2 := 26) cf_3 (e_aload_n (k0 := 0) d_Parser_check_24 rfl rfl) (e_iconst d_Parser_check_25 (by decide)) (by decide) fk_i tw_280 (Or.inl rfl) d_Parser_check_26) (s_seq (sl1 := [(0, 1)]) (p1 := 41) (s_put (k0 := 8) (p1 := 30) (p2 := 38) cf_3 (e_aload_n (k0 := 0) d_Parser_check_29 rfl rfl) (e_cI (p1 := 35) (a_cons (ι := Value.ref) (k0 := 1) (p1 := 34) (fun _ => rfl) (e_gR (k0 := 2) (p1 := 31) cf_3 (e_aload_n (k0 := 0) d_Parser_check_30 rfl rfl) (by decide) tw_275 d_Parser_check_31) (a_cons (ι := Value.int) (k0 := 1) (p1 := 35) (fun _ => rfl) (e_iconst d_Parser_check_34 (by decide)) a_nil)) (k_virt ok_Tape_kindAt mf_Tape_kindAt ⟨tw_764, tw_765⟩ rfl tw_763 d_Parser_check_35 (by decide) (by decide) (by decide))) (by decide) fk_i tw_281 (Or.inl rfl) d_Parser_check_38) (s_seq (sl1 := [(0, 1)]) (p1 := 46) (s_put (k0 := 9) (p1 := 42) (p2 := 43) cf_3 (e_aload_n (k0 := 0) d_Parser_check_41 rfl rfl) (e_iconst d_Parser_check_42 (by decide)) (by decide) fk_i tw_282 (Or.inl rfl) d_Parser_check_43) (s_seq (sl1 := [(0, 1)]) (p1 := 51) (s_put (k0 := 10) (p1 := 47) (p2 := 48) cf_3 (e_aload_n (k0 := 0) d_Parser_check_46 rfl rfl) (e_iconst d_Parser_check_47 (by decide)) (by decide) fk_i tw_283 (Or.inl rfl) d_Parser_check_48) (s_seq (sl1 := [(0, 1)]) (p1 := 56) (s_put (k0 := 11) (p1 := 52) (p2 := 53) cf_3 (e_aload_n (k0 := 0) d_Parser_check_51 rfl rfl) (e_iconst d_Parser_check_52 (by decide)) (by decide) fk_i tw_284 (Or.inl rfl) d_Parser_check_53) (s_seq (sl1 := [(0, 1)]) (p1 := 91) (s_blk (sl1 := [(0, 1), (1, 1)]) (s_seq (sl1 := [(0, 1), (1, 1)]) (p1 := 58) (s_decl (p1 := 57) (e_iconst d_Parser_check_56 (by decide)) (t_istore_n d_Parser_check_57 rfl (by decide)) rfl) (s_for (pt := 81) (pu := 85) (pf := 91) (pg := 0) (c_and (p1 := 72) (c_and (p1 := 65) (c_icmp_gtF (p1 := 59) (p2 := 62) (tg := 91) (e_iload_n (k0 := 1) d_Parser_check_58 rfl rfl) (e_sipush d_Parser_check_59 (by decide)) d_Parser_check_62 rfl) (c_if_neF (p1 := 69) (tg := 91) (e_gI (k0 := 5) (p1 := 66) cf_3 (e_aload_n (k0 := 0) d_Parser_check_65 rfl rfl) (by decide) tw_278 d_Parser_check_66) d_Parser_check_69 rfl)) (c_icmp_eqF (p1 := 76) (p2 := 78) (tg := 91) (e_gI (k0 := 8) (p1 := 73) cf_3 (e_aload_n (k0 := 0) d_Parser_check_72 rfl rfl) (by decide) tw_281 d_Parser_check_73) (e_bipush d_Parser_check_76 (by decide)) d_Parser_check_78 rfl)) (s_call (p1 := 82) (a_cons (ι := Value.ref) (k0 := 1) (p1 := 82) (fun _ => rfl) (e_aload_n (k0 := 0) d_Parser_check_81 rfl rfl) a_nil) (k_virt ok_Parser_readTell mf_Parser_readTell ⟨tw_769, tw_6⟩ rfl tw_767 d_Parser_check_82 (by decide) (by decide) (by decide))) (s_goto (p1 := 88) (s_inc (k0 := 1) d_Parser_check_85 rfl rfl (Nat.le_of_ble_eq_true rfl) rfl) d_Parser_check_88 rfl))) rfl) (s_seq (sl1 := [(0, 1)]) (p1 := 119) (s_blk (sl1 := [(0, 1), (1, 1)]) (s_seq (sl1 := [(0, 1), (1, 1)]) (p1 := 93) (s_decl (p1 := 92) (e_iconst d_Parser_check_91 (by decide)) (t_istore_n d_Parser_check_92 rfl (by decide)) rfl) (s_for (pt := 108) (pu := 113) (pf := 119) (pg := 0) (c_and (p1 := 101) (c_icmp_geF (p1 := 94) (p2 := 98) (tg := 119) (e_iload_n (k0 := 1) d_Parser_check_93 rfl rfl) (e_gI (k0 := 7) (p1 := 95) cf_3 (e_aload_n (k0 := 0) d_Parser_check_94 rfl rfl) (by decide) tw_280 d_Parser_check_95) d_Parser_check_98 rfl) (c_if_neF (p1 := 105) (tg := 119) (e_gI (k0 := 5) (p1 := 102) cf_3 (e_aload_n (k0 := 0) d_Parser_check_101 rfl rfl) (by decide) tw_278 d_Parser_check_102) d_Parser_check_105 rfl)) (s_call (p1 := 110) (a_cons (ι := Value.ref) (k0 := 1) (p1 := 109) (fun _ => rfl) (e_aload_n (k0 := 0) d_Parser_check_108 rfl rfl) (a_cons (ι := Value.int) (k0 := 1) (p1 := 110) (fun _ => rfl) (e_iload_n (k0 := 1) d_Parser_check_109 rfl rfl) a_nil)) (k_virt ok_Parser_understand mf_Parser_understand ⟨tw_810, tw_14⟩ rfl tw_808 d_Parser_check_110 (by decide) (by decide) (by decide))) (s_goto (p1 := 116) (s_inc (k0 := 1) d_Parser_check_113 rfl rfl (Nat.le_of_ble_eq_true rfl) rfl) d_Parser_check_116 rfl))) rfl) (s_seq (sl1 := [(0, 1)]) (p1 := 145) (s_put (k0 := 1) (p1 := 120) (p2 := 142) cf_3 (e_aload_n (k0 := 0) d_Parser_check_119 rfl rfl) (e_ite (pt := 127) (p1 := 128) (pf := 131) (c_if_neF (p1 := 124) (tg := 131) (e_gI (k0 := 5) (p1 := 121) cf_3 (e_aload_n (k0 := 0) d_Parser_check_120 rfl rfl) (by decide) tw_278 d_Parser_check_121) d_Parser_check_124 rfl) (e_iconst d_Parser_check_127 (by decide)) d_Parser_check_128 rfl (e_cI (p1 := 139) (a_cons (ι := Value.ref) (k0 := 1) (p1 := 135) (fun _ => rfl) (e_gR (k0 := 2) (p1 := 132) cf_3 (e_aload_n (k0 := 0) d_Parser_check_131 rfl rfl) (by decide) tw_275 d_Parser_check_132) (a_cons (ι := Value.int) (k0 := 1) (p1 := 139) (fun _ => rfl) (e_gI (k0 := 6) (p1 := 136) cf_3 (e_aload_n (k0 := 0) d_Parser_check_135 rfl rfl) (by decide) tw_279 d_Parser_check_136) a_nil)) (k_virt ok_Tape_placeAt mf_Tape_placeAt ⟨tw_845, tw_846⟩ rfl tw_844 d_Parser_check_139 (by decide) (by decide) (by decide)))) (by decide) fk_i tw_273 (Or.inl rfl) d_Parser_check_142) (s_ret (p1 := 149) (e_gI (k0 := 5) (p1 := 146) cf_3 (e_aload_n (k0 := 0) d_Parser_check_145 rfl rfl) (by decide) tw_278 d_Parser_check_146) rfl d_Parser_check_149))))))))))))))

/-! Methods: bytes, denotations, that the bytes do so (written by wip/whole/jgen.py). -/
/-! BlinkerCross$Tape.put(I)V -/
abbrev y_Tape_put : MethodName := ⟨"BlinkerCross$Tape", "put", "(I)V"⟩
abbrev Y_Tape_put : Yt := (prog_10_method_2_code, 3, "BlinkerCross$Tape", 0, none, "put")
theorem d_Tape_put_0 : decode prog_10_method_2_code 0 = .ok (.bipush 24, 2) := by decide +kernel
theorem d_Tape_put_2 : decode prog_10_method_2_code 2 = .ok (.istore_n 2, 1) := by decide +kernel
theorem d_Tape_put_3 : decode prog_10_method_2_code 3 = .ok (.iload_n 2, 1) := by decide +kernel
theorem d_Tape_put_4 : decode prog_10_method_2_code 4 = .ok (.ifCond .lt 42, 3) := by decide +kernel
theorem d_Tape_put_7 : decode prog_10_method_2_code 7 = .ok (.aload_n 0, 1) := by decide +kernel
theorem d_Tape_put_8 : decode prog_10_method_2_code 8 = .ok (.getfield 26, 3) := by decide +kernel
theorem d_Tape_put_11 : decode prog_10_method_2_code 11 = .ok (.sipush 2000, 3) := by decide +kernel
theorem d_Tape_put_14 : decode prog_10_method_2_code 14 = .ok (.if_icmp .ge 32, 3) := by decide +kernel
theorem d_Tape_put_17 : decode prog_10_method_2_code 17 = .ok (.aload_n 0, 1) := by decide +kernel
theorem d_Tape_put_18 : decode prog_10_method_2_code 18 = .ok (.getfield 9, 3) := by decide +kernel
theorem d_Tape_put_21 : decode prog_10_method_2_code 21 = .ok (.aload_n 0, 1) := by decide +kernel
theorem d_Tape_put_22 : decode prog_10_method_2_code 22 = .ok (.getfield 26, 3) := by decide +kernel
theorem d_Tape_put_25 : decode prog_10_method_2_code 25 = .ok (.iload_n 1, 1) := by decide +kernel
theorem d_Tape_put_26 : decode prog_10_method_2_code 26 = .ok (.iload_n 2, 1) := by decide +kernel
theorem d_Tape_put_27 : decode prog_10_method_2_code 27 = .ok (.iushr, 1) := by decide +kernel
theorem d_Tape_put_28 : decode prog_10_method_2_code 28 = .ok (.i2b, 1) := by decide +kernel
theorem d_Tape_put_29 : decode prog_10_method_2_code 29 = .ok (.bastore, 1) := by decide +kernel
theorem d_Tape_put_30 : decode prog_10_method_2_code 30 = .ok (.aload_n 0, 1) := by decide +kernel
theorem d_Tape_put_31 : decode prog_10_method_2_code 31 = .ok (.dup, 1) := by decide +kernel
theorem d_Tape_put_32 : decode prog_10_method_2_code 32 = .ok (.getfield 26, 3) := by decide +kernel
theorem d_Tape_put_35 : decode prog_10_method_2_code 35 = .ok (.iconst 1, 1) := by decide +kernel
theorem d_Tape_put_36 : decode prog_10_method_2_code 36 = .ok (.iadd, 1) := by decide +kernel
theorem d_Tape_put_37 : decode prog_10_method_2_code 37 = .ok (.putfield 26, 3) := by decide +kernel
theorem d_Tape_put_40 : decode prog_10_method_2_code 40 = .ok (.iinc 2 (-8), 3) := by decide +kernel
theorem d_Tape_put_43 : decode prog_10_method_2_code 43 = .ok (.goto (-40), 3) := by decide +kernel
theorem d_Tape_put_46 : decode prog_10_method_2_code 46 = .ok (.return_, 1) := by decide +kernel
noncomputable def Lc_Tape_put_1 : Xp Bool := cAnd (o1 (fun x => decide (x ≥ 0)) (vI 2)) (o2 (fun x y => decide (x < y)) (gI 1 1 (vR 0)) (kI (ii 2000)))
noncomputable def Lb_Tape_put_1 : Sm := sSeq (sAst 1 (gR 1 0 (vR 0)) (gI 1 1 (vR 0)) (o1 (fun x => x.toInt8.toInt32) (o2 (fun x y => (x.toUInt32 >>> (y.toUInt32 &&& Int32.toUInt32 31)).toInt32) (vI 1) (vI 2)))) (sFop 1 1 (vR 0) (fun x y => x + y) (kI (ii 1)))
noncomputable def Lu_Tape_put_1 : Sm := sInc 2 (ii (-8))
noncomputable def F_Tape_put : Sm := sSeq (sBlk 2 (sSeq (sDecl (asV Value.int (kI (ii 24)))) (sWh (Lc_Tape_put_1) (Lb_Tape_put_1) Lu_Tape_put_1))) (sRetV)
theorem mf_Tape_put : Mf y_Tape_put prog_10_method_2_code 3 none 1 := ⟨tw_606, tw_123, by decide +kernel⟩
noncomputable def D_Tape_put : Dn := runS [1, 1] F_Tape_put
theorem ok_Tape_put : MOK y_Tape_put prog_10_method_2_code 3 none 0 0 0 D_Tape_put := MOK.of (by decide) (by decide) (show SO Y_Tape_put [(0, 1), (1, 1)] [(0, 1), (1, 1)] 0 47 (([], 0), ([], 0)) F_Tape_put from
  (s_seq (sl1 := [(0, 1), (1, 1)]) (p1 := 46) (s_blk (sl1 := [(0, 1), (1, 1), (2, 1)]) (s_seq (sl1 := [(0, 1), (1, 1), (2, 1)]) (p1 := 3) (s_decl (p1 := 2) (e_bipush d_Tape_put_0 (by decide)) (t_istore_n d_Tape_put_2 rfl (by decide)) rfl) (s_for (pt := 17) (pu := 40) (pf := 46) (pg := 0) (c_and (p1 := 7) (c_if_ltF (p1 := 4) (tg := 46) (e_iload_n (k0 := 2) d_Tape_put_3 rfl rfl) d_Tape_put_4 rfl) (c_icmp_geF (p1 := 11) (p2 := 14) (tg := 46) (e_gI (k0 := 1) (p1 := 8) cf_1 (e_aload_n (k0 := 0) d_Tape_put_7 rfl rfl) (by decide) tw_159 d_Tape_put_8) (e_sipush d_Tape_put_11 (by decide)) d_Tape_put_14 rfl)) (s_seq (sl1 := [(0, 1), (1, 1), (2, 1)]) (p1 := 30) (s_ast (p1 := 21) (p2 := 25) (p3 := 29) (e_gR (k0 := 0) (p1 := 18) cf_1 (e_aload_n (k0 := 0) d_Tape_put_17 rfl rfl) (by decide) tw_157 d_Tape_put_18) (e_gI (k0 := 1) (p1 := 22) cf_1 (e_aload_n (k0 := 0) d_Tape_put_21 rfl rfl) (by decide) tw_159 d_Tape_put_22) (e_i2b (p1 := 28) (e_iushr (p1 := 26) (p2 := 27) (e_iload_n (k0 := 1) d_Tape_put_25 rfl rfl) (e_iload_n (k0 := 2) d_Tape_put_26 rfl rfl) d_Tape_put_27) d_Tape_put_28) (as_b d_Tape_put_29)) (s_fop (k0 := 1) (p1 := 31) (p2 := 36) cf_1 (e_aload_n (k0 := 0) d_Tape_put_30 rfl rfl) d_Tape_put_31 d_Tape_put_32 (e_iconst d_Tape_put_35 (by decide)) (op_iadd d_Tape_put_36) (by decide) rfl tw_159 tw_159 rfl d_Tape_put_37)) (s_goto (p1 := 43) (s_inc (k0 := 2) d_Tape_put_40 rfl rfl (Nat.le_of_ble_eq_true rfl) rfl) d_Tape_put_43 rfl))) rfl) (s_retV rfl d_Tape_put_46)))
/-! BlinkerCross$Tape.isBlank(B)Z -/
abbrev y_Tape_isBlank : MethodName := ⟨"BlinkerCross$Tape", "isBlank", "(B)Z"⟩
abbrev Y_Tape_isBlank : Yt := (prog_10_method_12_code, 1, "BlinkerCross$Tape", 0, (some .boolean), "isBlank")
theorem d_Tape_isBlank_0 : decode prog_10_method_12_code 0 = .ok (.iload_n 0, 1) := by decide +kernel
theorem d_Tape_isBlank_1 : decode prog_10_method_12_code 1 = .ok (.bipush 9, 2) := by decide +kernel
theorem d_Tape_isBlank_3 : decode prog_10_method_12_code 3 = .ok (.if_icmp .eq 21, 3) := by decide +kernel
theorem d_Tape_isBlank_6 : decode prog_10_method_12_code 6 = .ok (.iload_n 0, 1) := by decide +kernel
theorem d_Tape_isBlank_7 : decode prog_10_method_12_code 7 = .ok (.bipush 10, 2) := by decide +kernel
theorem d_Tape_isBlank_9 : decode prog_10_method_12_code 9 = .ok (.if_icmp .eq 15, 3) := by decide +kernel
theorem d_Tape_isBlank_12 : decode prog_10_method_12_code 12 = .ok (.iload_n 0, 1) := by decide +kernel
theorem d_Tape_isBlank_13 : decode prog_10_method_12_code 13 = .ok (.bipush 13, 2) := by decide +kernel
theorem d_Tape_isBlank_15 : decode prog_10_method_12_code 15 = .ok (.if_icmp .eq 9, 3) := by decide +kernel
theorem d_Tape_isBlank_18 : decode prog_10_method_12_code 18 = .ok (.iload_n 0, 1) := by decide +kernel
theorem d_Tape_isBlank_19 : decode prog_10_method_12_code 19 = .ok (.bipush 32, 2) := by decide +kernel
theorem d_Tape_isBlank_21 : decode prog_10_method_12_code 21 = .ok (.if_icmp .ne 7, 3) := by decide +kernel
theorem d_Tape_isBlank_24 : decode prog_10_method_12_code 24 = .ok (.iconst 1, 1) := by decide +kernel
theorem d_Tape_isBlank_25 : decode prog_10_method_12_code 25 = .ok (.goto 4, 3) := by decide +kernel
theorem d_Tape_isBlank_28 : decode prog_10_method_12_code 28 = .ok (.iconst 0, 1) := by decide +kernel
theorem d_Tape_isBlank_29 : decode prog_10_method_12_code 29 = .ok (.ireturn, 1) := by decide +kernel
noncomputable def F_Tape_isBlank : Sm := sRetZ (bX (cOr (cOr (cOr (o2 (fun x y => decide (x = y)) (vI 0) (kI (ii 9))) (o2 (fun x y => decide (x = y)) (vI 0) (kI (ii 10)))) (o2 (fun x y => decide (x = y)) (vI 0) (kI (ii 13)))) (o2 (fun x y => decide (x = y)) (vI 0) (kI (ii 32)))))
theorem mf_Tape_isBlank : Mf y_Tape_isBlank prog_10_method_12_code 1 (some .boolean) 1 := ⟨tw_630, tw_123, by decide +kernel⟩
noncomputable def D_Tape_isBlank : Dn := runS [1] F_Tape_isBlank
theorem ok_Tape_isBlank : MOK y_Tape_isBlank prog_10_method_12_code 1 (some .boolean) 0 0 0 D_Tape_isBlank := MOK.of (by decide) (by decide) (show SO Y_Tape_isBlank [(0, 1)] [(0, 1)] 0 30 (([], 0), ([], 0)) F_Tape_isBlank from
  (s_retZ (p1 := 29) (e_bool (pt := 24) (pf := 28) (c_or (p1 := 18) (c_or (p1 := 12) (c_or (p1 := 6) (c_icmp_eqT (p1 := 1) (p2 := 3) (tg := 24) (e_iload_n (k0 := 0) d_Tape_isBlank_0 rfl rfl) (e_bipush d_Tape_isBlank_1 (by decide)) d_Tape_isBlank_3 rfl) (c_icmp_eqT (p1 := 7) (p2 := 9) (tg := 24) (e_iload_n (k0 := 0) d_Tape_isBlank_6 rfl rfl) (e_bipush d_Tape_isBlank_7 (by decide)) d_Tape_isBlank_9 rfl)) (c_icmp_eqT (p1 := 13) (p2 := 15) (tg := 24) (e_iload_n (k0 := 0) d_Tape_isBlank_12 rfl rfl) (e_bipush d_Tape_isBlank_13 (by decide)) d_Tape_isBlank_15 rfl)) (c_icmp_neF (p1 := 19) (p2 := 21) (tg := 28) (e_iload_n (k0 := 0) d_Tape_isBlank_18 rfl rfl) (e_bipush d_Tape_isBlank_19 (by decide)) d_Tape_isBlank_21 rfl)) d_Tape_isBlank_24 d_Tape_isBlank_25 rfl d_Tape_isBlank_28 rfl) rfl d_Tape_isBlank_29))
/-! BlinkerCross$Tape.pastBlanks(I)I -/
abbrev y_Tape_pastBlanks : MethodName := ⟨"BlinkerCross$Tape", "pastBlanks", "(I)I"⟩
abbrev Y_Tape_pastBlanks : Yt := (prog_10_method_7_code, 3, "BlinkerCross$Tape", 1, (some .int), "pastBlanks")
theorem d_Tape_pastBlanks_0 : decode prog_10_method_7_code 0 = .ok (.iload_n 1, 1) := by decide +kernel
theorem d_Tape_pastBlanks_1 : decode prog_10_method_7_code 1 = .ok (.istore_n 2, 1) := by decide +kernel
theorem d_Tape_pastBlanks_2 : decode prog_10_method_7_code 2 = .ok (.iload_n 2, 1) := by decide +kernel
theorem d_Tape_pastBlanks_3 : decode prog_10_method_7_code 3 = .ok (.aload_n 0, 1) := by decide +kernel
theorem d_Tape_pastBlanks_4 : decode prog_10_method_7_code 4 = .ok (.getfield 26, 3) := by decide +kernel
theorem d_Tape_pastBlanks_7 : decode prog_10_method_7_code 7 = .ok (.if_icmp .ge 21, 3) := by decide +kernel
theorem d_Tape_pastBlanks_10 : decode prog_10_method_7_code 10 = .ok (.aload_n 0, 1) := by decide +kernel
theorem d_Tape_pastBlanks_11 : decode prog_10_method_7_code 11 = .ok (.getfield 9, 3) := by decide +kernel
theorem d_Tape_pastBlanks_14 : decode prog_10_method_7_code 14 = .ok (.iload_n 2, 1) := by decide +kernel
theorem d_Tape_pastBlanks_15 : decode prog_10_method_7_code 15 = .ok (.baload, 1) := by decide +kernel
theorem d_Tape_pastBlanks_16 : decode prog_10_method_7_code 16 = .ok (.invokestatic 38, 3) := by decide +kernel
theorem d_Tape_pastBlanks_19 : decode prog_10_method_7_code 19 = .ok (.ifCond .eq 9, 3) := by decide +kernel
theorem d_Tape_pastBlanks_22 : decode prog_10_method_7_code 22 = .ok (.iinc 2 1, 3) := by decide +kernel
theorem d_Tape_pastBlanks_25 : decode prog_10_method_7_code 25 = .ok (.goto (-23), 3) := by decide +kernel
theorem d_Tape_pastBlanks_28 : decode prog_10_method_7_code 28 = .ok (.iload_n 2, 1) := by decide +kernel
theorem d_Tape_pastBlanks_29 : decode prog_10_method_7_code 29 = .ok (.ireturn, 1) := by decide +kernel
noncomputable def Lc_Tape_pastBlanks_1 : Xp Bool := cAnd (o2 (fun x y => decide (x < y)) (vI 2) (gI 1 1 (vR 0))) (o1 (fun x => decide (x ≠ 0)) (cI (D_Tape_isBlank) [asV Value.int (aI 1 (gR 1 0 (vR 0)) (vI 2))]))
noncomputable def Lb_Tape_pastBlanks_1 : Sm := sInc 2 (ii 1)
noncomputable def Lu_Tape_pastBlanks_1 : Sm := sSkip
noncomputable def F_Tape_pastBlanks : Sm := sSeq (sDecl (asV Value.int (vI 1))) (sSeq (sWh (Lc_Tape_pastBlanks_1) (Lb_Tape_pastBlanks_1) Lu_Tape_pastBlanks_1) (sRet (asV Value.int (vI 2))))
theorem mf_Tape_pastBlanks : Mf y_Tape_pastBlanks prog_10_method_7_code 3 (some .int) 1 := ⟨tw_627, tw_123, by decide +kernel⟩
noncomputable def D_Tape_pastBlanks : Dn := runS [1, 1] F_Tape_pastBlanks
theorem ok_Tape_pastBlanks : MOK y_Tape_pastBlanks prog_10_method_7_code 3 (some .int) 1 0 0 D_Tape_pastBlanks := MOK.of (by decide) (by decide) (show SO Y_Tape_pastBlanks [(0, 1), (1, 1)] [(0, 1), (1, 1), (2, 1)] 0 30 (([], 0), ([], 0)) F_Tape_pastBlanks from
  (s_seq (sl1 := [(0, 1), (1, 1), (2, 1)]) (p1 := 2) (s_decl (p1 := 1) (e_iload_n (k0 := 1) d_Tape_pastBlanks_0 rfl rfl) (t_istore_n d_Tape_pastBlanks_1 rfl (by decide)) rfl) (s_seq (sl1 := [(0, 1), (1, 1), (2, 1)]) (p1 := 28) (s_for (pt := 22) (pu := 2) (pf := 28) (pg := 0) (c_and (p1 := 10) (c_icmp_geF (p1 := 3) (p2 := 7) (tg := 28) (e_iload_n (k0 := 2) d_Tape_pastBlanks_2 rfl rfl) (e_gI (k0 := 1) (p1 := 4) cf_1 (e_aload_n (k0 := 0) d_Tape_pastBlanks_3 rfl rfl) (by decide) tw_159 d_Tape_pastBlanks_4) d_Tape_pastBlanks_7 rfl) (c_if_eqF (p1 := 19) (tg := 28) (e_cI (p1 := 16) (a_cons (ι := Value.int) (k0 := 1) (p1 := 16) (fun _ => rfl) (e_bald (p1 := 14) (p2 := 15) (e_gR (k0 := 0) (p1 := 11) cf_1 (e_aload_n (k0 := 0) d_Tape_pastBlanks_10 rfl rfl) (by decide) tw_157 d_Tape_pastBlanks_11) (e_iload_n (k0 := 2) d_Tape_pastBlanks_14 rfl rfl) d_Tape_pastBlanks_15) a_nil) (k_stat ok_Tape_isBlank mf_Tape_isBlank tw_629 tw_628 d_Tape_pastBlanks_16 (by decide) (by decide) (by decide))) d_Tape_pastBlanks_19 rfl)) (s_goto (p1 := 25) (s_inc (k0 := 2) d_Tape_pastBlanks_22 rfl rfl (Nat.le_of_ble_eq_true rfl) rfl) d_Tape_pastBlanks_25 rfl) s_skip) (s_ret (p1 := 29) (e_iload_n (k0 := 2) d_Tape_pastBlanks_28 rfl rfl) rfl d_Tape_pastBlanks_29))))
/-! BlinkerCross$Tape.isLetter(B)Z -/
abbrev y_Tape_isLetter : MethodName := ⟨"BlinkerCross$Tape", "isLetter", "(B)Z"⟩
abbrev Y_Tape_isLetter : Yt := (prog_10_method_13_code, 1, "BlinkerCross$Tape", 0, (some .boolean), "isLetter")
theorem d_Tape_isLetter_0 : decode prog_10_method_13_code 0 = .ok (.iload_n 0, 1) := by decide +kernel
theorem d_Tape_isLetter_1 : decode prog_10_method_13_code 1 = .ok (.bipush 97, 2) := by decide +kernel
theorem d_Tape_isLetter_3 : decode prog_10_method_13_code 3 = .ok (.if_icmp .lt 13, 3) := by decide +kernel
theorem d_Tape_isLetter_6 : decode prog_10_method_13_code 6 = .ok (.iload_n 0, 1) := by decide +kernel
theorem d_Tape_isLetter_7 : decode prog_10_method_13_code 7 = .ok (.bipush 122, 2) := by decide +kernel
theorem d_Tape_isLetter_9 : decode prog_10_method_13_code 9 = .ok (.if_icmp .gt 7, 3) := by decide +kernel
theorem d_Tape_isLetter_12 : decode prog_10_method_13_code 12 = .ok (.iconst 1, 1) := by decide +kernel
theorem d_Tape_isLetter_13 : decode prog_10_method_13_code 13 = .ok (.goto 4, 3) := by decide +kernel
theorem d_Tape_isLetter_16 : decode prog_10_method_13_code 16 = .ok (.iconst 0, 1) := by decide +kernel
theorem d_Tape_isLetter_17 : decode prog_10_method_13_code 17 = .ok (.ireturn, 1) := by decide +kernel
noncomputable def F_Tape_isLetter : Sm := sRetZ (bX (cAnd (o2 (fun x y => decide (x ≥ y)) (vI 0) (kI (ii 97))) (o2 (fun x y => decide (x ≤ y)) (vI 0) (kI (ii 122)))))
theorem mf_Tape_isLetter : Mf y_Tape_isLetter prog_10_method_13_code 1 (some .boolean) 1 := ⟨tw_637, tw_123, by decide +kernel⟩
noncomputable def D_Tape_isLetter : Dn := runS [1] F_Tape_isLetter
theorem ok_Tape_isLetter : MOK y_Tape_isLetter prog_10_method_13_code 1 (some .boolean) 0 0 0 D_Tape_isLetter := MOK.of (by decide) (by decide) (show SO Y_Tape_isLetter [(0, 1)] [(0, 1)] 0 18 (([], 0), ([], 0)) F_Tape_isLetter from
  (s_retZ (p1 := 17) (e_bool (pt := 12) (pf := 16) (c_and (p1 := 6) (c_icmp_ltF (p1 := 1) (p2 := 3) (tg := 16) (e_iload_n (k0 := 0) d_Tape_isLetter_0 rfl rfl) (e_bipush d_Tape_isLetter_1 (by decide)) d_Tape_isLetter_3 rfl) (c_icmp_gtF (p1 := 7) (p2 := 9) (tg := 16) (e_iload_n (k0 := 0) d_Tape_isLetter_6 rfl rfl) (e_bipush d_Tape_isLetter_7 (by decide)) d_Tape_isLetter_9 rfl)) d_Tape_isLetter_12 d_Tape_isLetter_13 rfl d_Tape_isLetter_16 rfl) rfl d_Tape_isLetter_17))
/-! BlinkerCross$Tape.wordKind(II)I -/
abbrev y_Tape_wordKind : MethodName := ⟨"BlinkerCross$Tape", "wordKind", "(II)I"⟩
abbrev Y_Tape_wordKind : Yt := (prog_10_method_11_code, 5, "BlinkerCross$Tape", 6, (some .int), "wordKind")
theorem d_Tape_wordKind_0 : decode prog_10_method_11_code 0 = .ok (.iconst 0, 1) := by decide +kernel
theorem d_Tape_wordKind_1 : decode prog_10_method_11_code 1 = .ok (.istore_n 3, 1) := by decide +kernel
theorem d_Tape_wordKind_2 : decode prog_10_method_11_code 2 = .ok (.iload_n 3, 1) := by decide +kernel
theorem d_Tape_wordKind_3 : decode prog_10_method_11_code 3 = .ok (.bipush 20, 2) := by decide +kernel
theorem d_Tape_wordKind_5 : decode prog_10_method_11_code 5 = .ok (.if_icmp .ge 78, 3) := by decide +kernel
theorem d_Tape_wordKind_8 : decode prog_10_method_11_code 8 = .ok (.iconst 0, 1) := by decide +kernel
theorem d_Tape_wordKind_9 : decode prog_10_method_11_code 9 = .ok (.istore 4, 2) := by decide +kernel
theorem d_Tape_wordKind_11 : decode prog_10_method_11_code 11 = .ok (.iload 4, 2) := by decide +kernel
theorem d_Tape_wordKind_13 : decode prog_10_method_11_code 13 = .ok (.iload_n 2, 1) := by decide +kernel
theorem d_Tape_wordKind_14 : decode prog_10_method_11_code 14 = .ok (.if_icmp .ge 33, 3) := by decide +kernel
theorem d_Tape_wordKind_17 : decode prog_10_method_11_code 17 = .ok (.ldc 68, 2) := by decide +kernel
theorem d_Tape_wordKind_19 : decode prog_10_method_11_code 19 = .ok (.iload_n 3, 1) := by decide +kernel
theorem d_Tape_wordKind_20 : decode prog_10_method_11_code 20 = .ok (.bipush 8, 2) := by decide +kernel
theorem d_Tape_wordKind_22 : decode prog_10_method_11_code 22 = .ok (.imul, 1) := by decide +kernel
theorem d_Tape_wordKind_23 : decode prog_10_method_11_code 23 = .ok (.iload 4, 2) := by decide +kernel
theorem d_Tape_wordKind_25 : decode prog_10_method_11_code 25 = .ok (.iadd, 1) := by decide +kernel
theorem d_Tape_wordKind_26 : decode prog_10_method_11_code 26 = .ok (.invokevirtual 70, 3) := by decide +kernel
theorem d_Tape_wordKind_29 : decode prog_10_method_11_code 29 = .ok (.aload_n 0, 1) := by decide +kernel
theorem d_Tape_wordKind_30 : decode prog_10_method_11_code 30 = .ok (.getfield 9, 3) := by decide +kernel
theorem d_Tape_wordKind_33 : decode prog_10_method_11_code 33 = .ok (.iload_n 1, 1) := by decide +kernel
theorem d_Tape_wordKind_34 : decode prog_10_method_11_code 34 = .ok (.iload 4, 2) := by decide +kernel
theorem d_Tape_wordKind_36 : decode prog_10_method_11_code 36 = .ok (.iadd, 1) := by decide +kernel
theorem d_Tape_wordKind_37 : decode prog_10_method_11_code 37 = .ok (.baload, 1) := by decide +kernel
theorem d_Tape_wordKind_38 : decode prog_10_method_11_code 38 = .ok (.if_icmp .ne 9, 3) := by decide +kernel
theorem d_Tape_wordKind_41 : decode prog_10_method_11_code 41 = .ok (.iinc 4 1, 3) := by decide +kernel
theorem d_Tape_wordKind_44 : decode prog_10_method_11_code 44 = .ok (.goto (-33), 3) := by decide +kernel
theorem d_Tape_wordKind_47 : decode prog_10_method_11_code 47 = .ok (.iload 4, 2) := by decide +kernel
theorem d_Tape_wordKind_49 : decode prog_10_method_11_code 49 = .ok (.iload_n 2, 1) := by decide +kernel
theorem d_Tape_wordKind_50 : decode prog_10_method_11_code 50 = .ok (.if_icmp .ne 27, 3) := by decide +kernel
theorem d_Tape_wordKind_53 : decode prog_10_method_11_code 53 = .ok (.iload_n 2, 1) := by decide +kernel
theorem d_Tape_wordKind_54 : decode prog_10_method_11_code 54 = .ok (.bipush 8, 2) := by decide +kernel
theorem d_Tape_wordKind_56 : decode prog_10_method_11_code 56 = .ok (.if_icmp .eq 19, 3) := by decide +kernel
theorem d_Tape_wordKind_59 : decode prog_10_method_11_code 59 = .ok (.ldc 68, 2) := by decide +kernel
theorem d_Tape_wordKind_61 : decode prog_10_method_11_code 61 = .ok (.iload_n 3, 1) := by decide +kernel
theorem d_Tape_wordKind_62 : decode prog_10_method_11_code 62 = .ok (.bipush 8, 2) := by decide +kernel
theorem d_Tape_wordKind_64 : decode prog_10_method_11_code 64 = .ok (.imul, 1) := by decide +kernel
theorem d_Tape_wordKind_65 : decode prog_10_method_11_code 65 = .ok (.iload_n 2, 1) := by decide +kernel
theorem d_Tape_wordKind_66 : decode prog_10_method_11_code 66 = .ok (.iadd, 1) := by decide +kernel
theorem d_Tape_wordKind_67 : decode prog_10_method_11_code 67 = .ok (.invokevirtual 70, 3) := by decide +kernel
theorem d_Tape_wordKind_70 : decode prog_10_method_11_code 70 = .ok (.bipush 32, 2) := by decide +kernel
theorem d_Tape_wordKind_72 : decode prog_10_method_11_code 72 = .ok (.if_icmp .ne 5, 3) := by decide +kernel
theorem d_Tape_wordKind_75 : decode prog_10_method_11_code 75 = .ok (.iload_n 3, 1) := by decide +kernel
theorem d_Tape_wordKind_76 : decode prog_10_method_11_code 76 = .ok (.ireturn, 1) := by decide +kernel
theorem d_Tape_wordKind_77 : decode prog_10_method_11_code 77 = .ok (.iinc 3 1, 3) := by decide +kernel
theorem d_Tape_wordKind_80 : decode prog_10_method_11_code 80 = .ok (.goto (-78), 3) := by decide +kernel
theorem d_Tape_wordKind_83 : decode prog_10_method_11_code 83 = .ok (.bipush 20, 2) := by decide +kernel
theorem d_Tape_wordKind_85 : decode prog_10_method_11_code 85 = .ok (.ireturn, 1) := by decide +kernel
noncomputable def Lc_Tape_wordKind_1 : Xp Bool := cAnd (o2 (fun x y => decide (x < y)) (vI 4) (vI 2)) (o2 (fun x y => decide (x = y)) (chX (o2 (fun x y => x + y) (o2 (fun x y => x * y) (vI 3) (kI (ii 8))) (vI 4))) (aI 1 (gR 1 0 (vR 0)) (o2 (fun x y => x + y) (vI 1) (vI 4))))
noncomputable def Lb_Tape_wordKind_1 : Sm := sInc 4 (ii 1)
noncomputable def Lu_Tape_wordKind_1 : Sm := sSkip
noncomputable def Lc_Tape_wordKind_2 : Xp Bool := o2 (fun x y => decide (x < y)) (vI 3) (kI (ii 20))
noncomputable def Lb_Tape_wordKind_2 : Sm := sBlk 4 (sSeq (sDecl (asV Value.int (kI (ii 0)))) (sSeq (sWh (Lc_Tape_wordKind_1) (Lb_Tape_wordKind_1) Lu_Tape_wordKind_1) (sIf (cAnd (o2 (fun x y => decide (x = y)) (vI 4) (vI 2)) (cOr (o2 (fun x y => decide (x = y)) (vI 2) (kI (ii 8))) (o2 (fun x y => decide (x = y)) (chX (o2 (fun x y => x + y) (o2 (fun x y => x * y) (vI 3) (kI (ii 8))) (vI 2))) (kI (ii 32))))) (sRet (asV Value.int (vI 3))) (sSkip))))
noncomputable def Lu_Tape_wordKind_2 : Sm := sInc 3 (ii 1)
noncomputable def F_Tape_wordKind : Sm := sSeq (sBlk 3 (sSeq (sDecl (asV Value.int (kI (ii 0)))) (sWh (Lc_Tape_wordKind_2) (Lb_Tape_wordKind_2) Lu_Tape_wordKind_2))) (sRet (asV Value.int (kI (ii 20))))
theorem mf_Tape_wordKind : Mf y_Tape_wordKind prog_10_method_11_code 5 (some .int) 2 := ⟨tw_646, tw_123, by decide +kernel⟩
noncomputable def D_Tape_wordKind : Dn := runS [1, 1, 1] F_Tape_wordKind
theorem ok_Tape_wordKind : MOK y_Tape_wordKind prog_10_method_11_code 5 (some .int) 6 0 0 D_Tape_wordKind := MOK.of (by decide) (by decide) (show SO Y_Tape_wordKind [(0, 1), (1, 1), (2, 1)] [(0, 1), (1, 1), (2, 1)] 0 86 (([], 0), ([], 0)) F_Tape_wordKind from
  (s_seq (sl1 := [(0, 1), (1, 1), (2, 1)]) (p1 := 83) (s_blk (sl1 := [(0, 1), (1, 1), (2, 1), (3, 1)]) (s_seq (sl1 := [(0, 1), (1, 1), (2, 1), (3, 1)]) (p1 := 2) (s_decl (p1 := 1) (e_iconst d_Tape_wordKind_0 (by decide)) (t_istore_n d_Tape_wordKind_1 rfl (by decide)) rfl) (s_for (pt := 8) (pu := 77) (pf := 83) (pg := 0) (c_icmp_geF (p1 := 3) (p2 := 5) (tg := 83) (e_iload_n (k0 := 3) d_Tape_wordKind_2 rfl rfl) (e_bipush d_Tape_wordKind_3 (by decide)) d_Tape_wordKind_5 rfl) (s_blk (sl1 := [(0, 1), (1, 1), (2, 1), (3, 1), (4, 1)]) (s_seq (sl1 := [(0, 1), (1, 1), (2, 1), (3, 1), (4, 1)]) (p1 := 11) (s_decl (p1 := 9) (e_iconst d_Tape_wordKind_8 (by decide)) (t_istore d_Tape_wordKind_9 (by decide)) rfl) (s_seq (sl1 := [(0, 1), (1, 1), (2, 1), (3, 1), (4, 1)]) (p1 := 47) (s_for (pt := 41) (pu := 11) (pf := 47) (pg := 0) (c_and (p1 := 17) (c_icmp_geF (p1 := 13) (p2 := 14) (tg := 47) (e_iload (k0 := 4) d_Tape_wordKind_11 rfl) (e_iload_n (k0 := 2) d_Tape_wordKind_13 rfl rfl) d_Tape_wordKind_14 rfl) (c_icmp_neF (p1 := 29) (p2 := 38) (tg := 47) (e_chr (p1 := 26) rfl d_Tape_wordKind_17 (p_iadd (p1 := 23) (p2 := 25) (p_imul (p1 := 20) (p2 := 22) (p_iload_n (k0 := 3) d_Tape_wordKind_19 rfl rfl) (p_bipush d_Tape_wordKind_20 (by decide)) d_Tape_wordKind_22) (p_iload (k0 := 4) d_Tape_wordKind_23 rfl) d_Tape_wordKind_25) tw_648 d_Tape_wordKind_26 (by decide) (by decide)) (e_bald (p1 := 33) (p2 := 37) (e_gR (k0 := 0) (p1 := 30) cf_1 (e_aload_n (k0 := 0) d_Tape_wordKind_29 rfl rfl) (by decide) tw_157 d_Tape_wordKind_30) (e_iadd (p1 := 34) (p2 := 36) (e_iload_n (k0 := 1) d_Tape_wordKind_33 rfl rfl) (e_iload (k0 := 4) d_Tape_wordKind_34 rfl) d_Tape_wordKind_36) d_Tape_wordKind_37) d_Tape_wordKind_38 rfl)) (s_goto (p1 := 44) (s_inc (k0 := 4) d_Tape_wordKind_41 rfl rfl (Nat.le_of_ble_eq_true rfl) rfl) d_Tape_wordKind_44 rfl) s_skip) (s_if (pt := 75) (pf := 77) (c_and (p1 := 53) (c_icmp_neF (p1 := 49) (p2 := 50) (tg := 77) (e_iload (k0 := 4) d_Tape_wordKind_47 rfl) (e_iload_n (k0 := 2) d_Tape_wordKind_49 rfl rfl) d_Tape_wordKind_50 rfl) (c_or (p1 := 59) (c_icmp_eqT (p1 := 54) (p2 := 56) (tg := 75) (e_iload_n (k0 := 2) d_Tape_wordKind_53 rfl rfl) (e_bipush d_Tape_wordKind_54 (by decide)) d_Tape_wordKind_56 rfl) (c_icmp_neF (p1 := 70) (p2 := 72) (tg := 77) (e_chr (p1 := 67) rfl d_Tape_wordKind_59 (p_iadd (p1 := 65) (p2 := 66) (p_imul (p1 := 62) (p2 := 64) (p_iload_n (k0 := 3) d_Tape_wordKind_61 rfl rfl) (p_bipush d_Tape_wordKind_62 (by decide)) d_Tape_wordKind_64) (p_iload_n (k0 := 2) d_Tape_wordKind_65 rfl rfl) d_Tape_wordKind_66) tw_648 d_Tape_wordKind_67 (by decide) (by decide)) (e_bipush d_Tape_wordKind_70 (by decide)) d_Tape_wordKind_72 rfl))) (s_ret (p1 := 76) (e_iload_n (k0 := 3) d_Tape_wordKind_75 rfl rfl) rfl d_Tape_wordKind_76) s_skip))) rfl) (s_goto (p1 := 80) (s_inc (k0 := 3) d_Tape_wordKind_77 rfl rfl (Nat.le_of_ble_eq_true rfl) rfl) d_Tape_wordKind_80 rfl))) rfl) (s_ret (p1 := 85) (e_bipush d_Tape_wordKind_83 (by decide)) rfl d_Tape_wordKind_85)))
/-! BlinkerCross$Tape.addWord(II)I -/
abbrev y_Tape_addWord : MethodName := ⟨"BlinkerCross$Tape", "addWord", "(II)I"⟩
abbrev Y_Tape_addWord : Yt := (prog_10_method_9_code, 6, "BlinkerCross$Tape", 7, (some .int), "addWord")
theorem d_Tape_addWord_0 : decode prog_10_method_9_code 0 = .ok (.iload_n 2, 1) := by decide +kernel
theorem d_Tape_addWord_1 : decode prog_10_method_9_code 1 = .ok (.istore_n 3, 1) := by decide +kernel
theorem d_Tape_addWord_2 : decode prog_10_method_9_code 2 = .ok (.lconst 0, 1) := by decide +kernel
theorem d_Tape_addWord_3 : decode prog_10_method_9_code 3 = .ok (.lstore 4, 2) := by decide +kernel
theorem d_Tape_addWord_5 : decode prog_10_method_9_code 5 = .ok (.iload_n 3, 1) := by decide +kernel
theorem d_Tape_addWord_6 : decode prog_10_method_9_code 6 = .ok (.aload_n 0, 1) := by decide +kernel
theorem d_Tape_addWord_7 : decode prog_10_method_9_code 7 = .ok (.getfield 26, 3) := by decide +kernel
theorem d_Tape_addWord_10 : decode prog_10_method_9_code 10 = .ok (.if_icmp .ge 42, 3) := by decide +kernel
theorem d_Tape_addWord_13 : decode prog_10_method_9_code 13 = .ok (.aload_n 0, 1) := by decide +kernel
theorem d_Tape_addWord_14 : decode prog_10_method_9_code 14 = .ok (.getfield 9, 3) := by decide +kernel
theorem d_Tape_addWord_17 : decode prog_10_method_9_code 17 = .ok (.iload_n 3, 1) := by decide +kernel
theorem d_Tape_addWord_18 : decode prog_10_method_9_code 18 = .ok (.baload, 1) := by decide +kernel
theorem d_Tape_addWord_19 : decode prog_10_method_9_code 19 = .ok (.invokestatic 42, 3) := by decide +kernel
theorem d_Tape_addWord_22 : decode prog_10_method_9_code 22 = .ok (.ifCond .eq 30, 3) := by decide +kernel
theorem d_Tape_addWord_25 : decode prog_10_method_9_code 25 = .ok (.lload 4, 2) := by decide +kernel
theorem d_Tape_addWord_27 : decode prog_10_method_9_code 27 = .ok (.ldc2_w 61, 3) := by decide +kernel
theorem d_Tape_addWord_30 : decode prog_10_method_9_code 30 = .ok (.lmul, 1) := by decide +kernel
theorem d_Tape_addWord_31 : decode prog_10_method_9_code 31 = .ok (.aload_n 0, 1) := by decide +kernel
theorem d_Tape_addWord_32 : decode prog_10_method_9_code 32 = .ok (.getfield 9, 3) := by decide +kernel
theorem d_Tape_addWord_35 : decode prog_10_method_9_code 35 = .ok (.iload_n 3, 1) := by decide +kernel
theorem d_Tape_addWord_36 : decode prog_10_method_9_code 36 = .ok (.baload, 1) := by decide +kernel
theorem d_Tape_addWord_37 : decode prog_10_method_9_code 37 = .ok (.bipush 97, 2) := by decide +kernel
theorem d_Tape_addWord_39 : decode prog_10_method_9_code 39 = .ok (.isub, 1) := by decide +kernel
theorem d_Tape_addWord_40 : decode prog_10_method_9_code 40 = .ok (.iconst 1, 1) := by decide +kernel
theorem d_Tape_addWord_41 : decode prog_10_method_9_code 41 = .ok (.iadd, 1) := by decide +kernel
theorem d_Tape_addWord_42 : decode prog_10_method_9_code 42 = .ok (.i2l, 1) := by decide +kernel
theorem d_Tape_addWord_43 : decode prog_10_method_9_code 43 = .ok (.ladd, 1) := by decide +kernel
theorem d_Tape_addWord_44 : decode prog_10_method_9_code 44 = .ok (.lstore 4, 2) := by decide +kernel
theorem d_Tape_addWord_46 : decode prog_10_method_9_code 46 = .ok (.iinc 3 1, 3) := by decide +kernel
theorem d_Tape_addWord_49 : decode prog_10_method_9_code 49 = .ok (.goto (-44), 3) := by decide +kernel
theorem d_Tape_addWord_52 : decode prog_10_method_9_code 52 = .ok (.aload_n 0, 1) := by decide +kernel
theorem d_Tape_addWord_53 : decode prog_10_method_9_code 53 = .ok (.getfield 22, 3) := by decide +kernel
theorem d_Tape_addWord_56 : decode prog_10_method_9_code 56 = .ok (.iload_n 1, 1) := by decide +kernel
theorem d_Tape_addWord_57 : decode prog_10_method_9_code 57 = .ok (.lload 4, 2) := by decide +kernel
theorem d_Tape_addWord_59 : decode prog_10_method_9_code 59 = .ok (.lastore, 1) := by decide +kernel
theorem d_Tape_addWord_60 : decode prog_10_method_9_code 60 = .ok (.aload_n 0, 1) := by decide +kernel
theorem d_Tape_addWord_61 : decode prog_10_method_9_code 61 = .ok (.getfield 15, 3) := by decide +kernel
theorem d_Tape_addWord_64 : decode prog_10_method_9_code 64 = .ok (.iload_n 1, 1) := by decide +kernel
theorem d_Tape_addWord_65 : decode prog_10_method_9_code 65 = .ok (.iload_n 3, 1) := by decide +kernel
theorem d_Tape_addWord_66 : decode prog_10_method_9_code 66 = .ok (.iload_n 2, 1) := by decide +kernel
theorem d_Tape_addWord_67 : decode prog_10_method_9_code 67 = .ok (.isub, 1) := by decide +kernel
theorem d_Tape_addWord_68 : decode prog_10_method_9_code 68 = .ok (.bipush 8, 2) := by decide +kernel
theorem d_Tape_addWord_70 : decode prog_10_method_9_code 70 = .ok (.if_icmp .le 8, 3) := by decide +kernel
theorem d_Tape_addWord_73 : decode prog_10_method_9_code 73 = .ok (.bipush 32, 2) := by decide +kernel
theorem d_Tape_addWord_75 : decode prog_10_method_9_code 75 = .ok (.goto 11, 3) := by decide +kernel
theorem d_Tape_addWord_78 : decode prog_10_method_9_code 78 = .ok (.aload_n 0, 1) := by decide +kernel
theorem d_Tape_addWord_79 : decode prog_10_method_9_code 79 = .ok (.iload_n 2, 1) := by decide +kernel
theorem d_Tape_addWord_80 : decode prog_10_method_9_code 80 = .ok (.iload_n 3, 1) := by decide +kernel
theorem d_Tape_addWord_81 : decode prog_10_method_9_code 81 = .ok (.iload_n 2, 1) := by decide +kernel
theorem d_Tape_addWord_82 : decode prog_10_method_9_code 82 = .ok (.isub, 1) := by decide +kernel
theorem d_Tape_addWord_83 : decode prog_10_method_9_code 83 = .ok (.invokevirtual 63, 3) := by decide +kernel
theorem d_Tape_addWord_86 : decode prog_10_method_9_code 86 = .ok (.iastore, 1) := by decide +kernel
theorem d_Tape_addWord_87 : decode prog_10_method_9_code 87 = .ok (.iload_n 3, 1) := by decide +kernel
theorem d_Tape_addWord_88 : decode prog_10_method_9_code 88 = .ok (.ireturn, 1) := by decide +kernel
noncomputable def Lc_Tape_addWord_1 : Xp Bool := cAnd (o2 (fun x y => decide (x < y)) (vI 3) (gI 1 1 (vR 0))) (o1 (fun x => decide (x ≠ 0)) (cI (D_Tape_isLetter) [asV Value.int (aI 1 (gR 1 0 (vR 0)) (vI 3))]))
noncomputable def Lb_Tape_addWord_1 : Sm := sSeq (sSet 4 (asV Value.long (o2 (fun x y => x + y) (o2 (fun x y => x * y) (vL 4) (kL 27)) (o1 (fun x => x.toInt64) (o2 (fun x y => x + y) (o2 (fun x y => x - y) (aI 1 (gR 1 0 (vR 0)) (vI 3)) (kI (ii 97))) (kI (ii 1))))))) (sInc 3 (ii 1))
noncomputable def Lu_Tape_addWord_1 : Sm := sSkip
noncomputable def F_Tape_addWord : Sm := sSeq (sDecl (asV Value.int (vI 2))) (sSeq (sDecl (asV Value.long (kL 0))) (sSeq (sWh (Lc_Tape_addWord_1) (Lb_Tape_addWord_1) Lu_Tape_addWord_1) (sSeq (sAstL (gR 1 4 (vR 0)) (vI 1) (vL 4)) (sSeq (sAst 0 (gR 1 2 (vR 0)) (vI 1) (iX (o2 (fun x y => decide (x > y)) (o2 (fun x y => x - y) (vI 3) (vI 2)) (kI (ii 8))) (kI (ii 32)) (cI (mV 1 D_Tape_wordKind) [asV Value.ref (vR 0), asV Value.int (vI 2), asV Value.int (o2 (fun x y => x - y) (vI 3) (vI 2))]))) (sRet (asV Value.int (vI 3)))))))
theorem mf_Tape_addWord : Mf y_Tape_addWord prog_10_method_9_code 6 (some .int) 2 := ⟨tw_641, tw_123, by decide +kernel⟩
noncomputable def D_Tape_addWord : Dn := runS [1, 1, 1] F_Tape_addWord
theorem ok_Tape_addWord : MOK y_Tape_addWord prog_10_method_9_code 6 (some .int) 7 0 0 D_Tape_addWord := MOK.of (by decide) (by decide) (show SO Y_Tape_addWord [(0, 1), (1, 1), (2, 1)] [(0, 1), (1, 1), (2, 1), (3, 1), (4, 2)] 0 89 (([], 0), ([], 0)) F_Tape_addWord from
  (s_seq (sl1 := [(0, 1), (1, 1), (2, 1), (3, 1)]) (p1 := 2) (s_decl (p1 := 1) (e_iload_n (k0 := 2) d_Tape_addWord_0 rfl rfl) (t_istore_n d_Tape_addWord_1 rfl (by decide)) rfl) (s_seq (sl1 := [(0, 1), (1, 1), (2, 1), (3, 1), (4, 2)]) (p1 := 5) (s_decl (p1 := 3) (e_lconst d_Tape_addWord_2 rfl) (t_lstore d_Tape_addWord_3 (by decide)) rfl) (s_seq (sl1 := [(0, 1), (1, 1), (2, 1), (3, 1), (4, 2)]) (p1 := 52) (s_for (pt := 25) (pu := 5) (pf := 52) (pg := 0) (c_and (p1 := 13) (c_icmp_geF (p1 := 6) (p2 := 10) (tg := 52) (e_iload_n (k0 := 3) d_Tape_addWord_5 rfl rfl) (e_gI (k0 := 1) (p1 := 7) cf_1 (e_aload_n (k0 := 0) d_Tape_addWord_6 rfl rfl) (by decide) tw_159 d_Tape_addWord_7) d_Tape_addWord_10 rfl) (c_if_eqF (p1 := 22) (tg := 52) (e_cI (p1 := 19) (a_cons (ι := Value.int) (k0 := 1) (p1 := 19) (fun _ => rfl) (e_bald (p1 := 17) (p2 := 18) (e_gR (k0 := 0) (p1 := 14) cf_1 (e_aload_n (k0 := 0) d_Tape_addWord_13 rfl rfl) (by decide) tw_157 d_Tape_addWord_14) (e_iload_n (k0 := 3) d_Tape_addWord_17 rfl rfl) d_Tape_addWord_18) a_nil) (k_stat ok_Tape_isLetter mf_Tape_isLetter tw_636 tw_635 d_Tape_addWord_19 (by decide) (by decide) (by decide))) d_Tape_addWord_22 rfl)) (s_seq (sl1 := [(0, 1), (1, 1), (2, 1), (3, 1), (4, 2)]) (p1 := 46) (s_set (k0 := 4) (p1 := 44) (e_ladd (p1 := 31) (p2 := 43) (e_lmul (p1 := 27) (p2 := 30) (e_lload (k0 := 4) d_Tape_addWord_25 rfl) (e_ldc2 d_Tape_addWord_27 tw_642) d_Tape_addWord_30) (e_i2l (p1 := 42) (e_iadd (p1 := 40) (p2 := 41) (e_isub (p1 := 37) (p2 := 39) (e_bald (p1 := 35) (p2 := 36) (e_gR (k0 := 0) (p1 := 32) cf_1 (e_aload_n (k0 := 0) d_Tape_addWord_31 rfl rfl) (by decide) tw_157 d_Tape_addWord_32) (e_iload_n (k0 := 3) d_Tape_addWord_35 rfl rfl) d_Tape_addWord_36) (e_bipush d_Tape_addWord_37 (by decide)) d_Tape_addWord_39) (e_iconst d_Tape_addWord_40 (by decide)) d_Tape_addWord_41) d_Tape_addWord_42) d_Tape_addWord_43) (t_lstore d_Tape_addWord_44 (by decide)) rfl rfl) (s_goto (p1 := 49) (s_inc (k0 := 3) d_Tape_addWord_46 rfl rfl (Nat.le_of_ble_eq_true rfl) rfl) d_Tape_addWord_49 rfl)) s_skip) (s_seq (sl1 := [(0, 1), (1, 1), (2, 1), (3, 1), (4, 2)]) (p1 := 60) (s_astL (p1 := 56) (p2 := 57) (p3 := 59) (e_gR (k0 := 4) (p1 := 53) cf_1 (e_aload_n (k0 := 0) d_Tape_addWord_52 rfl rfl) (by decide) tw_163 d_Tape_addWord_53) (e_iload_n (k0 := 1) d_Tape_addWord_56 rfl rfl) (e_lload (k0 := 4) d_Tape_addWord_57 rfl) d_Tape_addWord_59) (s_seq (sl1 := [(0, 1), (1, 1), (2, 1), (3, 1), (4, 2)]) (p1 := 87) (s_ast (p1 := 64) (p2 := 65) (p3 := 86) (e_gR (k0 := 2) (p1 := 61) cf_1 (e_aload_n (k0 := 0) d_Tape_addWord_60 rfl rfl) (by decide) tw_160 d_Tape_addWord_61) (e_iload_n (k0 := 1) d_Tape_addWord_64 rfl rfl) (e_ite (pt := 73) (p1 := 75) (pf := 78) (c_icmp_leF (p1 := 68) (p2 := 70) (tg := 78) (e_isub (p1 := 66) (p2 := 67) (e_iload_n (k0 := 3) d_Tape_addWord_65 rfl rfl) (e_iload_n (k0 := 2) d_Tape_addWord_66 rfl rfl) d_Tape_addWord_67) (e_bipush d_Tape_addWord_68 (by decide)) d_Tape_addWord_70 rfl) (e_bipush d_Tape_addWord_73 (by decide)) d_Tape_addWord_75 rfl (e_cI (p1 := 83) (a_cons (ι := Value.ref) (k0 := 1) (p1 := 79) (fun _ => rfl) (e_aload_n (k0 := 0) d_Tape_addWord_78 rfl rfl) (a_cons (ι := Value.int) (k0 := 1) (p1 := 80) (fun _ => rfl) (e_iload_n (k0 := 2) d_Tape_addWord_79 rfl rfl) (a_cons (ι := Value.int) (k0 := 1) (p1 := 83) (fun _ => rfl) (e_isub (p1 := 81) (p2 := 82) (e_iload_n (k0 := 3) d_Tape_addWord_80 rfl rfl) (e_iload_n (k0 := 2) d_Tape_addWord_81 rfl rfl) d_Tape_addWord_82) a_nil))) (k_virt ok_Tape_wordKind mf_Tape_wordKind ⟨tw_645, tw_4⟩ rfl tw_643 d_Tape_addWord_83 (by decide) (by decide) (by decide)))) (as_i d_Tape_addWord_86)) (s_ret (p1 := 88) (e_iload_n (k0 := 3) d_Tape_addWord_87 rfl rfl) rfl d_Tape_addWord_88)))))))
/-! BlinkerCross$Tape.isDigit(B)Z -/
abbrev y_Tape_isDigit : MethodName := ⟨"BlinkerCross$Tape", "isDigit", "(B)Z"⟩
abbrev Y_Tape_isDigit : Yt := (prog_10_method_14_code, 1, "BlinkerCross$Tape", 0, (some .boolean), "isDigit")
theorem d_Tape_isDigit_0 : decode prog_10_method_14_code 0 = .ok (.iload_n 0, 1) := by decide +kernel
theorem d_Tape_isDigit_1 : decode prog_10_method_14_code 1 = .ok (.bipush 48, 2) := by decide +kernel
theorem d_Tape_isDigit_3 : decode prog_10_method_14_code 3 = .ok (.if_icmp .lt 13, 3) := by decide +kernel
theorem d_Tape_isDigit_6 : decode prog_10_method_14_code 6 = .ok (.iload_n 0, 1) := by decide +kernel
theorem d_Tape_isDigit_7 : decode prog_10_method_14_code 7 = .ok (.bipush 57, 2) := by decide +kernel
theorem d_Tape_isDigit_9 : decode prog_10_method_14_code 9 = .ok (.if_icmp .gt 7, 3) := by decide +kernel
theorem d_Tape_isDigit_12 : decode prog_10_method_14_code 12 = .ok (.iconst 1, 1) := by decide +kernel
theorem d_Tape_isDigit_13 : decode prog_10_method_14_code 13 = .ok (.goto 4, 3) := by decide +kernel
theorem d_Tape_isDigit_16 : decode prog_10_method_14_code 16 = .ok (.iconst 0, 1) := by decide +kernel
theorem d_Tape_isDigit_17 : decode prog_10_method_14_code 17 = .ok (.ireturn, 1) := by decide +kernel
noncomputable def F_Tape_isDigit : Sm := sRetZ (bX (cAnd (o2 (fun x y => decide (x ≥ y)) (vI 0) (kI (ii 48))) (o2 (fun x y => decide (x ≤ y)) (vI 0) (kI (ii 57)))))
theorem mf_Tape_isDigit : Mf y_Tape_isDigit prog_10_method_14_code 1 (some .boolean) 1 := ⟨tw_690, tw_123, by decide +kernel⟩
noncomputable def D_Tape_isDigit : Dn := runS [1] F_Tape_isDigit
theorem ok_Tape_isDigit : MOK y_Tape_isDigit prog_10_method_14_code 1 (some .boolean) 0 0 0 D_Tape_isDigit := MOK.of (by decide) (by decide) (show SO Y_Tape_isDigit [(0, 1)] [(0, 1)] 0 18 (([], 0), ([], 0)) F_Tape_isDigit from
  (s_retZ (p1 := 17) (e_bool (pt := 12) (pf := 16) (c_and (p1 := 6) (c_icmp_ltF (p1 := 1) (p2 := 3) (tg := 16) (e_iload_n (k0 := 0) d_Tape_isDigit_0 rfl rfl) (e_bipush d_Tape_isDigit_1 (by decide)) d_Tape_isDigit_3 rfl) (c_icmp_gtF (p1 := 7) (p2 := 9) (tg := 16) (e_iload_n (k0 := 0) d_Tape_isDigit_6 rfl rfl) (e_bipush d_Tape_isDigit_7 (by decide)) d_Tape_isDigit_9 rfl)) d_Tape_isDigit_12 d_Tape_isDigit_13 rfl d_Tape_isDigit_16 rfl) rfl d_Tape_isDigit_17))
/-! BlinkerCross$Tape.addInt(II)I -/
abbrev y_Tape_addInt : MethodName := ⟨"BlinkerCross$Tape", "addInt", "(II)I"⟩
abbrev Y_Tape_addInt : Yt := (prog_10_method_10_code, 6, "BlinkerCross$Tape", 1, (some .int), "addInt")
theorem d_Tape_addInt_0 : decode prog_10_method_10_code 0 = .ok (.iload_n 2, 1) := by decide +kernel
theorem d_Tape_addInt_1 : decode prog_10_method_10_code 1 = .ok (.istore_n 3, 1) := by decide +kernel
theorem d_Tape_addInt_2 : decode prog_10_method_10_code 2 = .ok (.lconst 0, 1) := by decide +kernel
theorem d_Tape_addInt_3 : decode prog_10_method_10_code 3 = .ok (.lstore 4, 2) := by decide +kernel
theorem d_Tape_addInt_5 : decode prog_10_method_10_code 5 = .ok (.iload_n 3, 1) := by decide +kernel
theorem d_Tape_addInt_6 : decode prog_10_method_10_code 6 = .ok (.aload_n 0, 1) := by decide +kernel
theorem d_Tape_addInt_7 : decode prog_10_method_10_code 7 = .ok (.getfield 26, 3) := by decide +kernel
theorem d_Tape_addInt_10 : decode prog_10_method_10_code 10 = .ok (.if_icmp .ge 40, 3) := by decide +kernel
theorem d_Tape_addInt_13 : decode prog_10_method_10_code 13 = .ok (.aload_n 0, 1) := by decide +kernel
theorem d_Tape_addInt_14 : decode prog_10_method_10_code 14 = .ok (.getfield 9, 3) := by decide +kernel
theorem d_Tape_addInt_17 : decode prog_10_method_10_code 17 = .ok (.iload_n 3, 1) := by decide +kernel
theorem d_Tape_addInt_18 : decode prog_10_method_10_code 18 = .ok (.baload, 1) := by decide +kernel
theorem d_Tape_addInt_19 : decode prog_10_method_10_code 19 = .ok (.invokestatic 48, 3) := by decide +kernel
theorem d_Tape_addInt_22 : decode prog_10_method_10_code 22 = .ok (.ifCond .eq 28, 3) := by decide +kernel
theorem d_Tape_addInt_25 : decode prog_10_method_10_code 25 = .ok (.lload 4, 2) := by decide +kernel
theorem d_Tape_addInt_27 : decode prog_10_method_10_code 27 = .ok (.ldc2_w 66, 3) := by decide +kernel
theorem d_Tape_addInt_30 : decode prog_10_method_10_code 30 = .ok (.lmul, 1) := by decide +kernel
theorem d_Tape_addInt_31 : decode prog_10_method_10_code 31 = .ok (.aload_n 0, 1) := by decide +kernel
theorem d_Tape_addInt_32 : decode prog_10_method_10_code 32 = .ok (.getfield 9, 3) := by decide +kernel
theorem d_Tape_addInt_35 : decode prog_10_method_10_code 35 = .ok (.iload_n 3, 1) := by decide +kernel
theorem d_Tape_addInt_36 : decode prog_10_method_10_code 36 = .ok (.baload, 1) := by decide +kernel
theorem d_Tape_addInt_37 : decode prog_10_method_10_code 37 = .ok (.bipush 48, 2) := by decide +kernel
theorem d_Tape_addInt_39 : decode prog_10_method_10_code 39 = .ok (.isub, 1) := by decide +kernel
theorem d_Tape_addInt_40 : decode prog_10_method_10_code 40 = .ok (.i2l, 1) := by decide +kernel
theorem d_Tape_addInt_41 : decode prog_10_method_10_code 41 = .ok (.ladd, 1) := by decide +kernel
theorem d_Tape_addInt_42 : decode prog_10_method_10_code 42 = .ok (.lstore 4, 2) := by decide +kernel
theorem d_Tape_addInt_44 : decode prog_10_method_10_code 44 = .ok (.iinc 3 1, 3) := by decide +kernel
theorem d_Tape_addInt_47 : decode prog_10_method_10_code 47 = .ok (.goto (-42), 3) := by decide +kernel
theorem d_Tape_addInt_50 : decode prog_10_method_10_code 50 = .ok (.aload_n 0, 1) := by decide +kernel
theorem d_Tape_addInt_51 : decode prog_10_method_10_code 51 = .ok (.getfield 22, 3) := by decide +kernel
theorem d_Tape_addInt_54 : decode prog_10_method_10_code 54 = .ok (.iload_n 1, 1) := by decide +kernel
theorem d_Tape_addInt_55 : decode prog_10_method_10_code 55 = .ok (.lload 4, 2) := by decide +kernel
theorem d_Tape_addInt_57 : decode prog_10_method_10_code 57 = .ok (.lastore, 1) := by decide +kernel
theorem d_Tape_addInt_58 : decode prog_10_method_10_code 58 = .ok (.aload_n 0, 1) := by decide +kernel
theorem d_Tape_addInt_59 : decode prog_10_method_10_code 59 = .ok (.getfield 15, 3) := by decide +kernel
theorem d_Tape_addInt_62 : decode prog_10_method_10_code 62 = .ok (.iload_n 1, 1) := by decide +kernel
theorem d_Tape_addInt_63 : decode prog_10_method_10_code 63 = .ok (.iload_n 3, 1) := by decide +kernel
theorem d_Tape_addInt_64 : decode prog_10_method_10_code 64 = .ok (.iload_n 2, 1) := by decide +kernel
theorem d_Tape_addInt_65 : decode prog_10_method_10_code 65 = .ok (.isub, 1) := by decide +kernel
theorem d_Tape_addInt_66 : decode prog_10_method_10_code 66 = .ok (.iconst 4, 1) := by decide +kernel
theorem d_Tape_addInt_67 : decode prog_10_method_10_code 67 = .ok (.if_icmp .le 8, 3) := by decide +kernel
theorem d_Tape_addInt_70 : decode prog_10_method_10_code 70 = .ok (.bipush 32, 2) := by decide +kernel
theorem d_Tape_addInt_72 : decode prog_10_method_10_code 72 = .ok (.goto 5, 3) := by decide +kernel
theorem d_Tape_addInt_75 : decode prog_10_method_10_code 75 = .ok (.bipush 21, 2) := by decide +kernel
theorem d_Tape_addInt_77 : decode prog_10_method_10_code 77 = .ok (.iastore, 1) := by decide +kernel
theorem d_Tape_addInt_78 : decode prog_10_method_10_code 78 = .ok (.iload_n 3, 1) := by decide +kernel
theorem d_Tape_addInt_79 : decode prog_10_method_10_code 79 = .ok (.ireturn, 1) := by decide +kernel
noncomputable def Lc_Tape_addInt_1 : Xp Bool := cAnd (o2 (fun x y => decide (x < y)) (vI 3) (gI 1 1 (vR 0))) (o1 (fun x => decide (x ≠ 0)) (cI (D_Tape_isDigit) [asV Value.int (aI 1 (gR 1 0 (vR 0)) (vI 3))]))
noncomputable def Lb_Tape_addInt_1 : Sm := sSeq (sSet 4 (asV Value.long (o2 (fun x y => x + y) (o2 (fun x y => x * y) (vL 4) (kL 10)) (o1 (fun x => x.toInt64) (o2 (fun x y => x - y) (aI 1 (gR 1 0 (vR 0)) (vI 3)) (kI (ii 48))))))) (sInc 3 (ii 1))
noncomputable def Lu_Tape_addInt_1 : Sm := sSkip
noncomputable def F_Tape_addInt : Sm := sSeq (sDecl (asV Value.int (vI 2))) (sSeq (sDecl (asV Value.long (kL 0))) (sSeq (sWh (Lc_Tape_addInt_1) (Lb_Tape_addInt_1) Lu_Tape_addInt_1) (sSeq (sAstL (gR 1 4 (vR 0)) (vI 1) (vL 4)) (sSeq (sAst 0 (gR 1 2 (vR 0)) (vI 1) (iX (o2 (fun x y => decide (x > y)) (o2 (fun x y => x - y) (vI 3) (vI 2)) (kI (ii 4))) (kI (ii 32)) (kI (ii 21)))) (sRet (asV Value.int (vI 3)))))))
theorem mf_Tape_addInt : Mf y_Tape_addInt prog_10_method_10_code 6 (some .int) 2 := ⟨tw_694, tw_123, by decide +kernel⟩
noncomputable def D_Tape_addInt : Dn := runS [1, 1, 1] F_Tape_addInt
theorem ok_Tape_addInt : MOK y_Tape_addInt prog_10_method_10_code 6 (some .int) 1 0 0 D_Tape_addInt := MOK.of (by decide) (by decide) (show SO Y_Tape_addInt [(0, 1), (1, 1), (2, 1)] [(0, 1), (1, 1), (2, 1), (3, 1), (4, 2)] 0 80 (([], 0), ([], 0)) F_Tape_addInt from
  (s_seq (sl1 := [(0, 1), (1, 1), (2, 1), (3, 1)]) (p1 := 2) (s_decl (p1 := 1) (e_iload_n (k0 := 2) d_Tape_addInt_0 rfl rfl) (t_istore_n d_Tape_addInt_1 rfl (by decide)) rfl) (s_seq (sl1 := [(0, 1), (1, 1), (2, 1), (3, 1), (4, 2)]) (p1 := 5) (s_decl (p1 := 3) (e_lconst d_Tape_addInt_2 rfl) (t_lstore d_Tape_addInt_3 (by decide)) rfl) (s_seq (sl1 := [(0, 1), (1, 1), (2, 1), (3, 1), (4, 2)]) (p1 := 50) (s_for (pt := 25) (pu := 5) (pf := 50) (pg := 0) (c_and (p1 := 13) (c_icmp_geF (p1 := 6) (p2 := 10) (tg := 50) (e_iload_n (k0 := 3) d_Tape_addInt_5 rfl rfl) (e_gI (k0 := 1) (p1 := 7) cf_1 (e_aload_n (k0 := 0) d_Tape_addInt_6 rfl rfl) (by decide) tw_159 d_Tape_addInt_7) d_Tape_addInt_10 rfl) (c_if_eqF (p1 := 22) (tg := 50) (e_cI (p1 := 19) (a_cons (ι := Value.int) (k0 := 1) (p1 := 19) (fun _ => rfl) (e_bald (p1 := 17) (p2 := 18) (e_gR (k0 := 0) (p1 := 14) cf_1 (e_aload_n (k0 := 0) d_Tape_addInt_13 rfl rfl) (by decide) tw_157 d_Tape_addInt_14) (e_iload_n (k0 := 3) d_Tape_addInt_17 rfl rfl) d_Tape_addInt_18) a_nil) (k_stat ok_Tape_isDigit mf_Tape_isDigit tw_689 tw_688 d_Tape_addInt_19 (by decide) (by decide) (by decide))) d_Tape_addInt_22 rfl)) (s_seq (sl1 := [(0, 1), (1, 1), (2, 1), (3, 1), (4, 2)]) (p1 := 44) (s_set (k0 := 4) (p1 := 42) (e_ladd (p1 := 31) (p2 := 41) (e_lmul (p1 := 27) (p2 := 30) (e_lload (k0 := 4) d_Tape_addInt_25 rfl) (e_ldc2 d_Tape_addInt_27 tw_695) d_Tape_addInt_30) (e_i2l (p1 := 40) (e_isub (p1 := 37) (p2 := 39) (e_bald (p1 := 35) (p2 := 36) (e_gR (k0 := 0) (p1 := 32) cf_1 (e_aload_n (k0 := 0) d_Tape_addInt_31 rfl rfl) (by decide) tw_157 d_Tape_addInt_32) (e_iload_n (k0 := 3) d_Tape_addInt_35 rfl rfl) d_Tape_addInt_36) (e_bipush d_Tape_addInt_37 (by decide)) d_Tape_addInt_39) d_Tape_addInt_40) d_Tape_addInt_41) (t_lstore d_Tape_addInt_42 (by decide)) rfl rfl) (s_goto (p1 := 47) (s_inc (k0 := 3) d_Tape_addInt_44 rfl rfl (Nat.le_of_ble_eq_true rfl) rfl) d_Tape_addInt_47 rfl)) s_skip) (s_seq (sl1 := [(0, 1), (1, 1), (2, 1), (3, 1), (4, 2)]) (p1 := 58) (s_astL (p1 := 54) (p2 := 55) (p3 := 57) (e_gR (k0 := 4) (p1 := 51) cf_1 (e_aload_n (k0 := 0) d_Tape_addInt_50 rfl rfl) (by decide) tw_163 d_Tape_addInt_51) (e_iload_n (k0 := 1) d_Tape_addInt_54 rfl rfl) (e_lload (k0 := 4) d_Tape_addInt_55 rfl) d_Tape_addInt_57) (s_seq (sl1 := [(0, 1), (1, 1), (2, 1), (3, 1), (4, 2)]) (p1 := 78) (s_ast (p1 := 62) (p2 := 63) (p3 := 77) (e_gR (k0 := 2) (p1 := 59) cf_1 (e_aload_n (k0 := 0) d_Tape_addInt_58 rfl rfl) (by decide) tw_160 d_Tape_addInt_59) (e_iload_n (k0 := 1) d_Tape_addInt_62 rfl rfl) (e_ite (pt := 70) (p1 := 72) (pf := 75) (c_icmp_leF (p1 := 66) (p2 := 67) (tg := 75) (e_isub (p1 := 64) (p2 := 65) (e_iload_n (k0 := 3) d_Tape_addInt_63 rfl rfl) (e_iload_n (k0 := 2) d_Tape_addInt_64 rfl rfl) d_Tape_addInt_65) (e_iconst d_Tape_addInt_66 (by decide)) d_Tape_addInt_67 rfl) (e_bipush d_Tape_addInt_70 (by decide)) d_Tape_addInt_72 rfl (e_bipush d_Tape_addInt_75 (by decide))) (as_i d_Tape_addInt_77)) (s_ret (p1 := 79) (e_iload_n (k0 := 3) d_Tape_addInt_78 rfl rfl) rfl d_Tape_addInt_79)))))))
/-! BlinkerCross$Tape.addToken(II)I -/
abbrev y_Tape_addToken : MethodName := ⟨"BlinkerCross$Tape", "addToken", "(II)I"⟩
abbrev Y_Tape_addToken : Yt := (prog_10_method_8_code, 4, "BlinkerCross$Tape", 8, (some .int), "addToken")
theorem d_Tape_addToken_0 : decode prog_10_method_8_code 0 = .ok (.aload_n 0, 1) := by decide +kernel
theorem d_Tape_addToken_1 : decode prog_10_method_8_code 1 = .ok (.getfield 22, 3) := by decide +kernel
theorem d_Tape_addToken_4 : decode prog_10_method_8_code 4 = .ok (.iload_n 1, 1) := by decide +kernel
theorem d_Tape_addToken_5 : decode prog_10_method_8_code 5 = .ok (.lconst 0, 1) := by decide +kernel
theorem d_Tape_addToken_6 : decode prog_10_method_8_code 6 = .ok (.lastore, 1) := by decide +kernel
theorem d_Tape_addToken_7 : decode prog_10_method_8_code 7 = .ok (.iload_n 2, 1) := by decide +kernel
theorem d_Tape_addToken_8 : decode prog_10_method_8_code 8 = .ok (.aload_n 0, 1) := by decide +kernel
theorem d_Tape_addToken_9 : decode prog_10_method_8_code 9 = .ok (.getfield 26, 3) := by decide +kernel
theorem d_Tape_addToken_12 : decode prog_10_method_8_code 12 = .ok (.if_icmp .lt 13, 3) := by decide +kernel
theorem d_Tape_addToken_15 : decode prog_10_method_8_code 15 = .ok (.aload_n 0, 1) := by decide +kernel
theorem d_Tape_addToken_16 : decode prog_10_method_8_code 16 = .ok (.getfield 15, 3) := by decide +kernel
theorem d_Tape_addToken_19 : decode prog_10_method_8_code 19 = .ok (.iload_n 1, 1) := by decide +kernel
theorem d_Tape_addToken_20 : decode prog_10_method_8_code 20 = .ok (.bipush 31, 2) := by decide +kernel
theorem d_Tape_addToken_22 : decode prog_10_method_8_code 22 = .ok (.iastore, 1) := by decide +kernel
theorem d_Tape_addToken_23 : decode prog_10_method_8_code 23 = .ok (.iload_n 2, 1) := by decide +kernel
theorem d_Tape_addToken_24 : decode prog_10_method_8_code 24 = .ok (.ireturn, 1) := by decide +kernel
theorem d_Tape_addToken_25 : decode prog_10_method_8_code 25 = .ok (.aload_n 0, 1) := by decide +kernel
theorem d_Tape_addToken_26 : decode prog_10_method_8_code 26 = .ok (.getfield 9, 3) := by decide +kernel
theorem d_Tape_addToken_29 : decode prog_10_method_8_code 29 = .ok (.iload_n 2, 1) := by decide +kernel
theorem d_Tape_addToken_30 : decode prog_10_method_8_code 30 = .ok (.baload, 1) := by decide +kernel
theorem d_Tape_addToken_31 : decode prog_10_method_8_code 31 = .ok (.invokestatic 42, 3) := by decide +kernel
theorem d_Tape_addToken_34 : decode prog_10_method_8_code 34 = .ok (.ifCond .eq 10, 3) := by decide +kernel
theorem d_Tape_addToken_37 : decode prog_10_method_8_code 37 = .ok (.aload_n 0, 1) := by decide +kernel
theorem d_Tape_addToken_38 : decode prog_10_method_8_code 38 = .ok (.iload_n 1, 1) := by decide +kernel
theorem d_Tape_addToken_39 : decode prog_10_method_8_code 39 = .ok (.iload_n 2, 1) := by decide +kernel
theorem d_Tape_addToken_40 : decode prog_10_method_8_code 40 = .ok (.invokevirtual 45, 3) := by decide +kernel
theorem d_Tape_addToken_43 : decode prog_10_method_8_code 43 = .ok (.ireturn, 1) := by decide +kernel
theorem d_Tape_addToken_44 : decode prog_10_method_8_code 44 = .ok (.aload_n 0, 1) := by decide +kernel
theorem d_Tape_addToken_45 : decode prog_10_method_8_code 45 = .ok (.getfield 9, 3) := by decide +kernel
theorem d_Tape_addToken_48 : decode prog_10_method_8_code 48 = .ok (.iload_n 2, 1) := by decide +kernel
theorem d_Tape_addToken_49 : decode prog_10_method_8_code 49 = .ok (.baload, 1) := by decide +kernel
theorem d_Tape_addToken_50 : decode prog_10_method_8_code 50 = .ok (.invokestatic 48, 3) := by decide +kernel
theorem d_Tape_addToken_53 : decode prog_10_method_8_code 53 = .ok (.ifCond .eq 10, 3) := by decide +kernel
theorem d_Tape_addToken_56 : decode prog_10_method_8_code 56 = .ok (.aload_n 0, 1) := by decide +kernel
theorem d_Tape_addToken_57 : decode prog_10_method_8_code 57 = .ok (.iload_n 1, 1) := by decide +kernel
theorem d_Tape_addToken_58 : decode prog_10_method_8_code 58 = .ok (.iload_n 2, 1) := by decide +kernel
theorem d_Tape_addToken_59 : decode prog_10_method_8_code 59 = .ok (.invokevirtual 51, 3) := by decide +kernel
theorem d_Tape_addToken_62 : decode prog_10_method_8_code 62 = .ok (.ireturn, 1) := by decide +kernel
theorem d_Tape_addToken_63 : decode prog_10_method_8_code 63 = .ok (.ldc 54, 2) := by decide +kernel
theorem d_Tape_addToken_65 : decode prog_10_method_8_code 65 = .ok (.aload_n 0, 1) := by decide +kernel
theorem d_Tape_addToken_66 : decode prog_10_method_8_code 66 = .ok (.getfield 9, 3) := by decide +kernel
theorem d_Tape_addToken_69 : decode prog_10_method_8_code 69 = .ok (.iload_n 2, 1) := by decide +kernel
theorem d_Tape_addToken_70 : decode prog_10_method_8_code 70 = .ok (.baload, 1) := by decide +kernel
theorem d_Tape_addToken_71 : decode prog_10_method_8_code 71 = .ok (.sipush 255, 3) := by decide +kernel
theorem d_Tape_addToken_74 : decode prog_10_method_8_code 74 = .ok (.iand, 1) := by decide +kernel
theorem d_Tape_addToken_75 : decode prog_10_method_8_code 75 = .ok (.i2c, 1) := by decide +kernel
theorem d_Tape_addToken_76 : decode prog_10_method_8_code 76 = .ok (.invokevirtual 56, 3) := by decide +kernel
theorem d_Tape_addToken_79 : decode prog_10_method_8_code 79 = .ok (.istore_n 3, 1) := by decide +kernel
theorem d_Tape_addToken_80 : decode prog_10_method_8_code 80 = .ok (.aload_n 0, 1) := by decide +kernel
theorem d_Tape_addToken_81 : decode prog_10_method_8_code 81 = .ok (.getfield 15, 3) := by decide +kernel
theorem d_Tape_addToken_84 : decode prog_10_method_8_code 84 = .ok (.iload_n 1, 1) := by decide +kernel
theorem d_Tape_addToken_85 : decode prog_10_method_8_code 85 = .ok (.iload_n 3, 1) := by decide +kernel
theorem d_Tape_addToken_86 : decode prog_10_method_8_code 86 = .ok (.ifCond .ge 8, 3) := by decide +kernel
theorem d_Tape_addToken_89 : decode prog_10_method_8_code 89 = .ok (.bipush 32, 2) := by decide +kernel
theorem d_Tape_addToken_91 : decode prog_10_method_8_code 91 = .ok (.goto 7, 3) := by decide +kernel
theorem d_Tape_addToken_94 : decode prog_10_method_8_code 94 = .ok (.bipush 22, 2) := by decide +kernel
theorem d_Tape_addToken_96 : decode prog_10_method_8_code 96 = .ok (.iload_n 3, 1) := by decide +kernel
theorem d_Tape_addToken_97 : decode prog_10_method_8_code 97 = .ok (.iadd, 1) := by decide +kernel
theorem d_Tape_addToken_98 : decode prog_10_method_8_code 98 = .ok (.iastore, 1) := by decide +kernel
theorem d_Tape_addToken_99 : decode prog_10_method_8_code 99 = .ok (.iload_n 2, 1) := by decide +kernel
theorem d_Tape_addToken_100 : decode prog_10_method_8_code 100 = .ok (.iconst 1, 1) := by decide +kernel
theorem d_Tape_addToken_101 : decode prog_10_method_8_code 101 = .ok (.iadd, 1) := by decide +kernel
theorem d_Tape_addToken_102 : decode prog_10_method_8_code 102 = .ok (.ireturn, 1) := by decide +kernel
noncomputable def F_Tape_addToken : Sm := sSeq (sAstL (gR 1 4 (vR 0)) (vI 1) (kL 0)) (sSeq (sIf (o2 (fun x y => decide (x ≥ y)) (vI 2) (gI 1 1 (vR 0))) (sSeq (sAst 0 (gR 1 2 (vR 0)) (vI 1) (kI (ii 31))) (sRet (asV Value.int (vI 2)))) (sSkip)) (sSeq (sIf (o1 (fun x => decide (x ≠ 0)) (cI (D_Tape_isLetter) [asV Value.int (aI 1 (gR 1 0 (vR 0)) (vI 2))])) (sRet (asV Value.int (cI (mV 1 D_Tape_addWord) [asV Value.ref (vR 0), asV Value.int (vI 1), asV Value.int (vI 2)]))) (sSkip)) (sSeq (sIf (o1 (fun x => decide (x ≠ 0)) (cI (D_Tape_isDigit) [asV Value.int (aI 1 (gR 1 0 (vR 0)) (vI 2))])) (sRet (asV Value.int (cI (mV 1 D_Tape_addInt) [asV Value.ref (vR 0), asV Value.int (vI 1), asV Value.int (vI 2)]))) (sSkip)) (sSeq (sDecl (asV Value.int (idX (o1 (fun x => (x.toUInt32 % 65536).toInt32) (o2 (fun x y => x &&& y) (aI 1 (gR 1 0 (vR 0)) (vI 2)) (kI (ii 255))))))) (sSeq (sAst 0 (gR 1 2 (vR 0)) (vI 1) (iX (o1 (fun x => decide (x < 0)) (vI 3)) (kI (ii 32)) (o2 (fun x y => x + y) (kI (ii 22)) (vI 3)))) (sRet (asV Value.int (o2 (fun x y => x + y) (vI 2) (kI (ii 1))))))))))
theorem mf_Tape_addToken : Mf y_Tape_addToken prog_10_method_8_code 4 (some .int) 2 := ⟨tw_634, tw_123, by decide +kernel⟩
noncomputable def D_Tape_addToken : Dn := runS [1, 1, 1] F_Tape_addToken
theorem ok_Tape_addToken : MOK y_Tape_addToken prog_10_method_8_code 4 (some .int) 8 0 0 D_Tape_addToken := MOK.of (by decide) (by decide) (show SO Y_Tape_addToken [(0, 1), (1, 1), (2, 1)] [(0, 1), (1, 1), (2, 1), (3, 1)] 0 103 (([], 0), ([], 0)) F_Tape_addToken from
  (s_seq (sl1 := [(0, 1), (1, 1), (2, 1)]) (p1 := 7) (s_astL (p1 := 4) (p2 := 5) (p3 := 6) (e_gR (k0 := 4) (p1 := 1) cf_1 (e_aload_n (k0 := 0) d_Tape_addToken_0 rfl rfl) (by decide) tw_163 d_Tape_addToken_1) (e_iload_n (k0 := 1) d_Tape_addToken_4 rfl rfl) (e_lconst d_Tape_addToken_5 rfl) d_Tape_addToken_6) (s_seq (sl1 := [(0, 1), (1, 1), (2, 1)]) (p1 := 25) (s_if (pt := 15) (pf := 25) (c_icmp_ltF (p1 := 8) (p2 := 12) (tg := 25) (e_iload_n (k0 := 2) d_Tape_addToken_7 rfl rfl) (e_gI (k0 := 1) (p1 := 9) cf_1 (e_aload_n (k0 := 0) d_Tape_addToken_8 rfl rfl) (by decide) tw_159 d_Tape_addToken_9) d_Tape_addToken_12 rfl) (s_seq (sl1 := [(0, 1), (1, 1), (2, 1)]) (p1 := 23) (s_ast (p1 := 19) (p2 := 20) (p3 := 22) (e_gR (k0 := 2) (p1 := 16) cf_1 (e_aload_n (k0 := 0) d_Tape_addToken_15 rfl rfl) (by decide) tw_160 d_Tape_addToken_16) (e_iload_n (k0 := 1) d_Tape_addToken_19 rfl rfl) (e_bipush d_Tape_addToken_20 (by decide)) (as_i d_Tape_addToken_22)) (s_ret (p1 := 24) (e_iload_n (k0 := 2) d_Tape_addToken_23 rfl rfl) rfl d_Tape_addToken_24)) s_skip) (s_seq (sl1 := [(0, 1), (1, 1), (2, 1)]) (p1 := 44) (s_if (pt := 37) (pf := 44) (c_if_eqF (p1 := 34) (tg := 44) (e_cI (p1 := 31) (a_cons (ι := Value.int) (k0 := 1) (p1 := 31) (fun _ => rfl) (e_bald (p1 := 29) (p2 := 30) (e_gR (k0 := 0) (p1 := 26) cf_1 (e_aload_n (k0 := 0) d_Tape_addToken_25 rfl rfl) (by decide) tw_157 d_Tape_addToken_26) (e_iload_n (k0 := 2) d_Tape_addToken_29 rfl rfl) d_Tape_addToken_30) a_nil) (k_stat ok_Tape_isLetter mf_Tape_isLetter tw_636 tw_635 d_Tape_addToken_31 (by decide) (by decide) (by decide))) d_Tape_addToken_34 rfl) (s_ret (p1 := 43) (e_cI (p1 := 40) (a_cons (ι := Value.ref) (k0 := 1) (p1 := 38) (fun _ => rfl) (e_aload_n (k0 := 0) d_Tape_addToken_37 rfl rfl) (a_cons (ι := Value.int) (k0 := 1) (p1 := 39) (fun _ => rfl) (e_iload_n (k0 := 1) d_Tape_addToken_38 rfl rfl) (a_cons (ι := Value.int) (k0 := 1) (p1 := 40) (fun _ => rfl) (e_iload_n (k0 := 2) d_Tape_addToken_39 rfl rfl) a_nil))) (k_virt ok_Tape_addWord mf_Tape_addWord ⟨tw_640, tw_3⟩ rfl tw_638 d_Tape_addToken_40 (by decide) (by decide) (by decide))) rfl d_Tape_addToken_43) s_skip) (s_seq (sl1 := [(0, 1), (1, 1), (2, 1)]) (p1 := 63) (s_if (pt := 56) (pf := 63) (c_if_eqF (p1 := 53) (tg := 63) (e_cI (p1 := 50) (a_cons (ι := Value.int) (k0 := 1) (p1 := 50) (fun _ => rfl) (e_bald (p1 := 48) (p2 := 49) (e_gR (k0 := 0) (p1 := 45) cf_1 (e_aload_n (k0 := 0) d_Tape_addToken_44 rfl rfl) (by decide) tw_157 d_Tape_addToken_45) (e_iload_n (k0 := 2) d_Tape_addToken_48 rfl rfl) d_Tape_addToken_49) a_nil) (k_stat ok_Tape_isDigit mf_Tape_isDigit tw_689 tw_688 d_Tape_addToken_50 (by decide) (by decide) (by decide))) d_Tape_addToken_53 rfl) (s_ret (p1 := 62) (e_cI (p1 := 59) (a_cons (ι := Value.ref) (k0 := 1) (p1 := 57) (fun _ => rfl) (e_aload_n (k0 := 0) d_Tape_addToken_56 rfl rfl) (a_cons (ι := Value.int) (k0 := 1) (p1 := 58) (fun _ => rfl) (e_iload_n (k0 := 1) d_Tape_addToken_57 rfl rfl) (a_cons (ι := Value.int) (k0 := 1) (p1 := 59) (fun _ => rfl) (e_iload_n (k0 := 2) d_Tape_addToken_58 rfl rfl) a_nil))) (k_virt ok_Tape_addInt mf_Tape_addInt ⟨tw_693, tw_5⟩ rfl tw_691 d_Tape_addToken_59 (by decide) (by decide) (by decide))) rfl d_Tape_addToken_62) s_skip) (s_seq (sl1 := [(0, 1), (1, 1), (2, 1), (3, 1)]) (p1 := 80) (s_decl (p1 := 79) (e_idx (p1 := 76) rfl d_Tape_addToken_63 (p_i2c (p1 := 75) (p_iand (p1 := 71) (p2 := 74) (p_bald (p1 := 69) (p2 := 70) (p_gR (k0 := 0) (p1 := 66) cf_1 (p_aload_n (k0 := 0) d_Tape_addToken_65 rfl rfl) (by decide) tw_157 d_Tape_addToken_66) (p_iload_n (k0 := 2) d_Tape_addToken_69 rfl rfl) d_Tape_addToken_70) (p_sipush d_Tape_addToken_71 (by decide)) d_Tape_addToken_74) d_Tape_addToken_75) tw_697 d_Tape_addToken_76 (by decide) (by decide)) (t_istore_n d_Tape_addToken_79 rfl (by decide)) rfl) (s_seq (sl1 := [(0, 1), (1, 1), (2, 1), (3, 1)]) (p1 := 99) (s_ast (p1 := 84) (p2 := 85) (p3 := 98) (e_gR (k0 := 2) (p1 := 81) cf_1 (e_aload_n (k0 := 0) d_Tape_addToken_80 rfl rfl) (by decide) tw_160 d_Tape_addToken_81) (e_iload_n (k0 := 1) d_Tape_addToken_84 rfl rfl) (e_ite (pt := 89) (p1 := 91) (pf := 94) (c_if_geF (p1 := 86) (tg := 94) (e_iload_n (k0 := 3) d_Tape_addToken_85 rfl rfl) d_Tape_addToken_86 rfl) (e_bipush d_Tape_addToken_89 (by decide)) d_Tape_addToken_91 rfl (e_iadd (p1 := 96) (p2 := 97) (e_bipush d_Tape_addToken_94 (by decide)) (e_iload_n (k0 := 3) d_Tape_addToken_96 rfl rfl) d_Tape_addToken_97)) (as_i d_Tape_addToken_98)) (s_ret (p1 := 102) (e_iadd (p1 := 100) (p2 := 101) (e_iload_n (k0 := 2) d_Tape_addToken_99 rfl rfl) (e_iconst d_Tape_addToken_100 (by decide)) d_Tape_addToken_101) rfl d_Tape_addToken_102))))))))
/-! BlinkerCross$Tape.split()V -/
abbrev y_Tape_split : MethodName := ⟨"BlinkerCross$Tape", "split", "()V"⟩
abbrev Y_Tape_split : Yt := (prog_10_method_6_code, 3, "BlinkerCross$Tape", 9, none, "split")
theorem d_Tape_split_0 : decode prog_10_method_6_code 0 = .ok (.iconst 0, 1) := by decide +kernel
theorem d_Tape_split_1 : decode prog_10_method_6_code 1 = .ok (.istore_n 1, 1) := by decide +kernel
theorem d_Tape_split_2 : decode prog_10_method_6_code 2 = .ok (.iconst 0, 1) := by decide +kernel
theorem d_Tape_split_3 : decode prog_10_method_6_code 3 = .ok (.istore_n 2, 1) := by decide +kernel
theorem d_Tape_split_4 : decode prog_10_method_6_code 4 = .ok (.iload_n 2, 1) := by decide +kernel
theorem d_Tape_split_5 : decode prog_10_method_6_code 5 = .ok (.sipush 400, 3) := by decide +kernel
theorem d_Tape_split_8 : decode prog_10_method_6_code 8 = .ok (.if_icmp .gt 41, 3) := by decide +kernel
theorem d_Tape_split_11 : decode prog_10_method_6_code 11 = .ok (.aload_n 0, 1) := by decide +kernel
theorem d_Tape_split_12 : decode prog_10_method_6_code 12 = .ok (.iload_n 1, 1) := by decide +kernel
theorem d_Tape_split_13 : decode prog_10_method_6_code 13 = .ok (.invokevirtual 30, 3) := by decide +kernel
theorem d_Tape_split_16 : decode prog_10_method_6_code 16 = .ok (.istore_n 1, 1) := by decide +kernel
theorem d_Tape_split_17 : decode prog_10_method_6_code 17 = .ok (.aload_n 0, 1) := by decide +kernel
theorem d_Tape_split_18 : decode prog_10_method_6_code 18 = .ok (.getfield 19, 3) := by decide +kernel
theorem d_Tape_split_21 : decode prog_10_method_6_code 21 = .ok (.iload_n 2, 1) := by decide +kernel
theorem d_Tape_split_22 : decode prog_10_method_6_code 22 = .ok (.iload_n 1, 1) := by decide +kernel
theorem d_Tape_split_23 : decode prog_10_method_6_code 23 = .ok (.iastore, 1) := by decide +kernel
theorem d_Tape_split_24 : decode prog_10_method_6_code 24 = .ok (.aload_n 0, 1) := by decide +kernel
theorem d_Tape_split_25 : decode prog_10_method_6_code 25 = .ok (.iload_n 2, 1) := by decide +kernel
theorem d_Tape_split_26 : decode prog_10_method_6_code 26 = .ok (.iload_n 1, 1) := by decide +kernel
theorem d_Tape_split_27 : decode prog_10_method_6_code 27 = .ok (.invokevirtual 34, 3) := by decide +kernel
theorem d_Tape_split_30 : decode prog_10_method_6_code 30 = .ok (.istore_n 1, 1) := by decide +kernel
theorem d_Tape_split_31 : decode prog_10_method_6_code 31 = .ok (.aload_n 0, 1) := by decide +kernel
theorem d_Tape_split_32 : decode prog_10_method_6_code 32 = .ok (.getfield 15, 3) := by decide +kernel
theorem d_Tape_split_35 : decode prog_10_method_6_code 35 = .ok (.iload_n 2, 1) := by decide +kernel
theorem d_Tape_split_36 : decode prog_10_method_6_code 36 = .ok (.iaload, 1) := by decide +kernel
theorem d_Tape_split_37 : decode prog_10_method_6_code 37 = .ok (.bipush 31, 2) := by decide +kernel
theorem d_Tape_split_39 : decode prog_10_method_6_code 39 = .ok (.if_icmp .lt 4, 3) := by decide +kernel
theorem d_Tape_split_42 : decode prog_10_method_6_code 42 = .ok (.return_, 1) := by decide +kernel
theorem d_Tape_split_43 : decode prog_10_method_6_code 43 = .ok (.iinc 2 1, 3) := by decide +kernel
theorem d_Tape_split_46 : decode prog_10_method_6_code 46 = .ok (.goto (-42), 3) := by decide +kernel
theorem d_Tape_split_49 : decode prog_10_method_6_code 49 = .ok (.return_, 1) := by decide +kernel
noncomputable def Lc_Tape_split_1 : Xp Bool := o2 (fun x y => decide (x ≤ y)) (vI 2) (kI (ii 400))
noncomputable def Lb_Tape_split_1 : Sm := sSeq (sSet 1 (asV Value.int (cI (mV 1 D_Tape_pastBlanks) [asV Value.ref (vR 0), asV Value.int (vI 1)]))) (sSeq (sAst 0 (gR 1 3 (vR 0)) (vI 2) (vI 1)) (sSeq (sSet 1 (asV Value.int (cI (mV 1 D_Tape_addToken) [asV Value.ref (vR 0), asV Value.int (vI 2), asV Value.int (vI 1)]))) (sIf (o2 (fun x y => decide (x ≥ y)) (aI 0 (gR 1 2 (vR 0)) (vI 2)) (kI (ii 31))) (sRetV) (sSkip))))
noncomputable def Lu_Tape_split_1 : Sm := sInc 2 (ii 1)
noncomputable def F_Tape_split : Sm := sSeq (sDecl (asV Value.int (kI (ii 0)))) (sSeq (sBlk 2 (sSeq (sDecl (asV Value.int (kI (ii 0)))) (sWh (Lc_Tape_split_1) (Lb_Tape_split_1) Lu_Tape_split_1))) (sRetV))
theorem mf_Tape_split : Mf y_Tape_split prog_10_method_6_code 3 none 0 := ⟨tw_623, tw_123, by decide +kernel⟩
noncomputable def D_Tape_split : Dn := runS [1] F_Tape_split
theorem ok_Tape_split : MOK y_Tape_split prog_10_method_6_code 3 none 9 0 0 D_Tape_split := MOK.of (by decide) (by decide) (show SO Y_Tape_split [(0, 1)] [(0, 1), (1, 1)] 0 50 (([], 0), ([], 0)) F_Tape_split from
  (s_seq (sl1 := [(0, 1), (1, 1)]) (p1 := 2) (s_decl (p1 := 1) (e_iconst d_Tape_split_0 (by decide)) (t_istore_n d_Tape_split_1 rfl (by decide)) rfl) (s_seq (sl1 := [(0, 1), (1, 1)]) (p1 := 49) (s_blk (sl1 := [(0, 1), (1, 1), (2, 1)]) (s_seq (sl1 := [(0, 1), (1, 1), (2, 1)]) (p1 := 4) (s_decl (p1 := 3) (e_iconst d_Tape_split_2 (by decide)) (t_istore_n d_Tape_split_3 rfl (by decide)) rfl) (s_for (pt := 11) (pu := 43) (pf := 49) (pg := 0) (c_icmp_gtF (p1 := 5) (p2 := 8) (tg := 49) (e_iload_n (k0 := 2) d_Tape_split_4 rfl rfl) (e_sipush d_Tape_split_5 (by decide)) d_Tape_split_8 rfl) (s_seq (sl1 := [(0, 1), (1, 1), (2, 1)]) (p1 := 17) (s_set (k0 := 1) (p1 := 16) (e_cI (p1 := 13) (a_cons (ι := Value.ref) (k0 := 1) (p1 := 12) (fun _ => rfl) (e_aload_n (k0 := 0) d_Tape_split_11 rfl rfl) (a_cons (ι := Value.int) (k0 := 1) (p1 := 13) (fun _ => rfl) (e_iload_n (k0 := 1) d_Tape_split_12 rfl rfl) a_nil)) (k_virt ok_Tape_pastBlanks mf_Tape_pastBlanks ⟨tw_626, tw_1⟩ rfl tw_624 d_Tape_split_13 (by decide) (by decide) (by decide))) (t_istore_n d_Tape_split_16 rfl (by decide)) rfl rfl) (s_seq (sl1 := [(0, 1), (1, 1), (2, 1)]) (p1 := 24) (s_ast (p1 := 21) (p2 := 22) (p3 := 23) (e_gR (k0 := 3) (p1 := 18) cf_1 (e_aload_n (k0 := 0) d_Tape_split_17 rfl rfl) (by decide) tw_162 d_Tape_split_18) (e_iload_n (k0 := 2) d_Tape_split_21 rfl rfl) (e_iload_n (k0 := 1) d_Tape_split_22 rfl rfl) (as_i d_Tape_split_23)) (s_seq (sl1 := [(0, 1), (1, 1), (2, 1)]) (p1 := 31) (s_set (k0 := 1) (p1 := 30) (e_cI (p1 := 27) (a_cons (ι := Value.ref) (k0 := 1) (p1 := 25) (fun _ => rfl) (e_aload_n (k0 := 0) d_Tape_split_24 rfl rfl) (a_cons (ι := Value.int) (k0 := 1) (p1 := 26) (fun _ => rfl) (e_iload_n (k0 := 2) d_Tape_split_25 rfl rfl) (a_cons (ι := Value.int) (k0 := 1) (p1 := 27) (fun _ => rfl) (e_iload_n (k0 := 1) d_Tape_split_26 rfl rfl) a_nil))) (k_virt ok_Tape_addToken mf_Tape_addToken ⟨tw_633, tw_2⟩ rfl tw_631 d_Tape_split_27 (by decide) (by decide) (by decide))) (t_istore_n d_Tape_split_30 rfl (by decide)) rfl rfl) (s_if (pt := 42) (pf := 43) (c_icmp_ltF (p1 := 37) (p2 := 39) (tg := 43) (e_iald (p1 := 35) (p2 := 36) (e_gR (k0 := 2) (p1 := 32) cf_1 (e_aload_n (k0 := 0) d_Tape_split_31 rfl rfl) (by decide) tw_160 d_Tape_split_32) (e_iload_n (k0 := 2) d_Tape_split_35 rfl rfl) d_Tape_split_36) (e_bipush d_Tape_split_37 (by decide)) d_Tape_split_39 rfl) (s_retV rfl d_Tape_split_42) s_skip)))) (s_goto (p1 := 46) (s_inc (k0 := 2) d_Tape_split_43 rfl rfl (Nat.le_of_ble_eq_true rfl) rfl) d_Tape_split_46 rfl))) rfl) (s_retV rfl d_Tape_split_49))))
/-! BlinkerCross$Tape.kindAt(I)I -/
abbrev y_Tape_kindAt : MethodName := ⟨"BlinkerCross$Tape", "kindAt", "(I)I"⟩
abbrev Y_Tape_kindAt : Yt := (prog_10_method_3_code, 2, "BlinkerCross$Tape", 0, (some .int), "kindAt")
theorem d_Tape_kindAt_0 : decode prog_10_method_3_code 0 = .ok (.iload_n 1, 1) := by decide +kernel
theorem d_Tape_kindAt_1 : decode prog_10_method_3_code 1 = .ok (.ifCond .lt 19, 3) := by decide +kernel
theorem d_Tape_kindAt_4 : decode prog_10_method_3_code 4 = .ok (.iload_n 1, 1) := by decide +kernel
theorem d_Tape_kindAt_5 : decode prog_10_method_3_code 5 = .ok (.sipush 400, 3) := by decide +kernel
theorem d_Tape_kindAt_8 : decode prog_10_method_3_code 8 = .ok (.if_icmp .gt 12, 3) := by decide +kernel
theorem d_Tape_kindAt_11 : decode prog_10_method_3_code 11 = .ok (.aload_n 0, 1) := by decide +kernel
theorem d_Tape_kindAt_12 : decode prog_10_method_3_code 12 = .ok (.getfield 15, 3) := by decide +kernel
theorem d_Tape_kindAt_15 : decode prog_10_method_3_code 15 = .ok (.iload_n 1, 1) := by decide +kernel
theorem d_Tape_kindAt_16 : decode prog_10_method_3_code 16 = .ok (.iaload, 1) := by decide +kernel
theorem d_Tape_kindAt_17 : decode prog_10_method_3_code 17 = .ok (.goto 5, 3) := by decide +kernel
theorem d_Tape_kindAt_20 : decode prog_10_method_3_code 20 = .ok (.bipush 31, 2) := by decide +kernel
theorem d_Tape_kindAt_22 : decode prog_10_method_3_code 22 = .ok (.ireturn, 1) := by decide +kernel
noncomputable def F_Tape_kindAt : Sm := sRet (asV Value.int (iX (cAnd (o1 (fun x => decide (x ≥ 0)) (vI 1)) (o2 (fun x y => decide (x ≤ y)) (vI 1) (kI (ii 400)))) (aI 0 (gR 1 2 (vR 0)) (vI 1)) (kI (ii 31))))
theorem mf_Tape_kindAt : Mf y_Tape_kindAt prog_10_method_3_code 2 (some .int) 1 := ⟨tw_766, tw_123, by decide +kernel⟩
noncomputable def D_Tape_kindAt : Dn := runS [1, 1] F_Tape_kindAt
theorem ok_Tape_kindAt : MOK y_Tape_kindAt prog_10_method_3_code 2 (some .int) 0 0 0 D_Tape_kindAt := MOK.of (by decide) (by decide) (show SO Y_Tape_kindAt [(0, 1), (1, 1)] [(0, 1), (1, 1)] 0 23 (([], 0), ([], 0)) F_Tape_kindAt from
  (s_ret (p1 := 22) (e_ite (pt := 11) (p1 := 17) (pf := 20) (c_and (p1 := 4) (c_if_ltF (p1 := 1) (tg := 20) (e_iload_n (k0 := 1) d_Tape_kindAt_0 rfl rfl) d_Tape_kindAt_1 rfl) (c_icmp_gtF (p1 := 5) (p2 := 8) (tg := 20) (e_iload_n (k0 := 1) d_Tape_kindAt_4 rfl rfl) (e_sipush d_Tape_kindAt_5 (by decide)) d_Tape_kindAt_8 rfl)) (e_iald (p1 := 15) (p2 := 16) (e_gR (k0 := 2) (p1 := 12) cf_1 (e_aload_n (k0 := 0) d_Tape_kindAt_11 rfl rfl) (by decide) tw_160 d_Tape_kindAt_12) (e_iload_n (k0 := 1) d_Tape_kindAt_15 rfl rfl) d_Tape_kindAt_16) d_Tape_kindAt_17 rfl (e_bipush d_Tape_kindAt_20 (by decide))) rfl d_Tape_kindAt_22))
/-! BlinkerCross$Tape.valueAt(I)J -/
abbrev y_Tape_valueAt : MethodName := ⟨"BlinkerCross$Tape", "valueAt", "(I)J"⟩
abbrev Y_Tape_valueAt : Yt := (prog_10_method_5_code, 2, "BlinkerCross$Tape", 0, (some .long), "valueAt")
theorem d_Tape_valueAt_0 : decode prog_10_method_5_code 0 = .ok (.iload_n 1, 1) := by decide +kernel
theorem d_Tape_valueAt_1 : decode prog_10_method_5_code 1 = .ok (.ifCond .lt 19, 3) := by decide +kernel
theorem d_Tape_valueAt_4 : decode prog_10_method_5_code 4 = .ok (.iload_n 1, 1) := by decide +kernel
theorem d_Tape_valueAt_5 : decode prog_10_method_5_code 5 = .ok (.sipush 400, 3) := by decide +kernel
theorem d_Tape_valueAt_8 : decode prog_10_method_5_code 8 = .ok (.if_icmp .gt 12, 3) := by decide +kernel
theorem d_Tape_valueAt_11 : decode prog_10_method_5_code 11 = .ok (.aload_n 0, 1) := by decide +kernel
theorem d_Tape_valueAt_12 : decode prog_10_method_5_code 12 = .ok (.getfield 22, 3) := by decide +kernel
theorem d_Tape_valueAt_15 : decode prog_10_method_5_code 15 = .ok (.iload_n 1, 1) := by decide +kernel
theorem d_Tape_valueAt_16 : decode prog_10_method_5_code 16 = .ok (.laload, 1) := by decide +kernel
theorem d_Tape_valueAt_17 : decode prog_10_method_5_code 17 = .ok (.goto 4, 3) := by decide +kernel
theorem d_Tape_valueAt_20 : decode prog_10_method_5_code 20 = .ok (.lconst 0, 1) := by decide +kernel
theorem d_Tape_valueAt_21 : decode prog_10_method_5_code 21 = .ok (.lreturn, 1) := by decide +kernel
noncomputable def F_Tape_valueAt : Sm := sRet (asV Value.long (iX (cAnd (o1 (fun x => decide (x ≥ 0)) (vI 1)) (o2 (fun x y => decide (x ≤ y)) (vI 1) (kI (ii 400)))) (aL (gR 1 4 (vR 0)) (vI 1)) (kL 0)))
theorem mf_Tape_valueAt : Mf y_Tape_valueAt prog_10_method_5_code 2 (some .long) 1 := ⟨tw_802, tw_123, by decide +kernel⟩
noncomputable def D_Tape_valueAt : Dn := runS [1, 1] F_Tape_valueAt
theorem ok_Tape_valueAt : MOK y_Tape_valueAt prog_10_method_5_code 2 (some .long) 0 0 0 D_Tape_valueAt := MOK.of (by decide) (by decide) (show SO Y_Tape_valueAt [(0, 1), (1, 1)] [(0, 1), (1, 1)] 0 22 (([], 0), ([], 0)) F_Tape_valueAt from
  (s_retL (p1 := 21) (e_ite (pt := 11) (p1 := 17) (pf := 20) (c_and (p1 := 4) (c_if_ltF (p1 := 1) (tg := 20) (e_iload_n (k0 := 1) d_Tape_valueAt_0 rfl rfl) d_Tape_valueAt_1 rfl) (c_icmp_gtF (p1 := 5) (p2 := 8) (tg := 20) (e_iload_n (k0 := 1) d_Tape_valueAt_4 rfl rfl) (e_sipush d_Tape_valueAt_5 (by decide)) d_Tape_valueAt_8 rfl)) (e_lald (p1 := 15) (p2 := 16) (e_gR (k0 := 4) (p1 := 12) cf_1 (e_aload_n (k0 := 0) d_Tape_valueAt_11 rfl rfl) (by decide) tw_163 d_Tape_valueAt_12) (e_iload_n (k0 := 1) d_Tape_valueAt_15 rfl rfl) d_Tape_valueAt_16) d_Tape_valueAt_17 rfl (e_lconst d_Tape_valueAt_20 rfl)) rfl d_Tape_valueAt_21))
/-! BlinkerCross$Tape.placeAt(I)I -/
abbrev y_Tape_placeAt : MethodName := ⟨"BlinkerCross$Tape", "placeAt", "(I)I"⟩
abbrev Y_Tape_placeAt : Yt := (prog_10_method_4_code, 2, "BlinkerCross$Tape", 0, (some .int), "placeAt")
theorem d_Tape_placeAt_0 : decode prog_10_method_4_code 0 = .ok (.iload_n 1, 1) := by decide +kernel
theorem d_Tape_placeAt_1 : decode prog_10_method_4_code 1 = .ok (.ifCond .lt 19, 3) := by decide +kernel
theorem d_Tape_placeAt_4 : decode prog_10_method_4_code 4 = .ok (.iload_n 1, 1) := by decide +kernel
theorem d_Tape_placeAt_5 : decode prog_10_method_4_code 5 = .ok (.sipush 400, 3) := by decide +kernel
theorem d_Tape_placeAt_8 : decode prog_10_method_4_code 8 = .ok (.if_icmp .gt 12, 3) := by decide +kernel
theorem d_Tape_placeAt_11 : decode prog_10_method_4_code 11 = .ok (.aload_n 0, 1) := by decide +kernel
theorem d_Tape_placeAt_12 : decode prog_10_method_4_code 12 = .ok (.getfield 19, 3) := by decide +kernel
theorem d_Tape_placeAt_15 : decode prog_10_method_4_code 15 = .ok (.iload_n 1, 1) := by decide +kernel
theorem d_Tape_placeAt_16 : decode prog_10_method_4_code 16 = .ok (.iaload, 1) := by decide +kernel
theorem d_Tape_placeAt_17 : decode prog_10_method_4_code 17 = .ok (.goto 7, 3) := by decide +kernel
theorem d_Tape_placeAt_20 : decode prog_10_method_4_code 20 = .ok (.aload_n 0, 1) := by decide +kernel
theorem d_Tape_placeAt_21 : decode prog_10_method_4_code 21 = .ok (.getfield 26, 3) := by decide +kernel
theorem d_Tape_placeAt_24 : decode prog_10_method_4_code 24 = .ok (.ireturn, 1) := by decide +kernel
noncomputable def F_Tape_placeAt : Sm := sRet (asV Value.int (iX (cAnd (o1 (fun x => decide (x ≥ 0)) (vI 1)) (o2 (fun x y => decide (x ≤ y)) (vI 1) (kI (ii 400)))) (aI 0 (gR 1 3 (vR 0)) (vI 1)) (gI 1 1 (vR 0))))
theorem mf_Tape_placeAt : Mf y_Tape_placeAt prog_10_method_4_code 2 (some .int) 1 := ⟨tw_847, tw_123, by decide +kernel⟩
noncomputable def D_Tape_placeAt : Dn := runS [1, 1] F_Tape_placeAt
theorem ok_Tape_placeAt : MOK y_Tape_placeAt prog_10_method_4_code 2 (some .int) 0 0 0 D_Tape_placeAt := MOK.of (by decide) (by decide) (show SO Y_Tape_placeAt [(0, 1), (1, 1)] [(0, 1), (1, 1)] 0 25 (([], 0), ([], 0)) F_Tape_placeAt from
  (s_ret (p1 := 24) (e_ite (pt := 11) (p1 := 17) (pf := 20) (c_and (p1 := 4) (c_if_ltF (p1 := 1) (tg := 20) (e_iload_n (k0 := 1) d_Tape_placeAt_0 rfl rfl) d_Tape_placeAt_1 rfl) (c_icmp_gtF (p1 := 5) (p2 := 8) (tg := 20) (e_iload_n (k0 := 1) d_Tape_placeAt_4 rfl rfl) (e_sipush d_Tape_placeAt_5 (by decide)) d_Tape_placeAt_8 rfl)) (e_iald (p1 := 15) (p2 := 16) (e_gR (k0 := 3) (p1 := 12) cf_1 (e_aload_n (k0 := 0) d_Tape_placeAt_11 rfl rfl) (by decide) tw_162 d_Tape_placeAt_12) (e_iload_n (k0 := 1) d_Tape_placeAt_15 rfl rfl) d_Tape_placeAt_16) d_Tape_placeAt_17 rfl (e_gI (k0 := 1) (p1 := 21) cf_1 (e_aload_n (k0 := 0) d_Tape_placeAt_20 rfl rfl) (by decide) tw_159 d_Tape_placeAt_21)) rfl d_Tape_placeAt_24))

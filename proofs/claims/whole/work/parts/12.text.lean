/-! Methods: bytes, denotations, that the bytes do so (written by wip/whole/jgen.py). -/
/-! BlinkerCross$Text.emit(II)V -/
abbrev y_Text_emit : MethodName := ⟨"BlinkerCross$Text", "emit", "(II)V"⟩
abbrev Y_Text_emit : Yt := (prog_11_method_4_code, 3, "BlinkerCross$Text", 0, none, "emit")
theorem d_Text_emit_0 : decode prog_11_method_4_code 0 = .ok (.aload_n 0, 1) := by decide +kernel
theorem d_Text_emit_1 : decode prog_11_method_4_code 1 = .ok (.getfield 46, 3) := by decide +kernel
theorem d_Text_emit_4 : decode prog_11_method_4_code 4 = .ok (.sipush 408, 3) := by decide +kernel
theorem d_Text_emit_7 : decode prog_11_method_4_code 7 = .ok (.if_icmp .ge 33, 3) := by decide +kernel
theorem d_Text_emit_10 : decode prog_11_method_4_code 10 = .ok (.aload_n 0, 1) := by decide +kernel
theorem d_Text_emit_11 : decode prog_11_method_4_code 11 = .ok (.getfield 27, 3) := by decide +kernel
theorem d_Text_emit_14 : decode prog_11_method_4_code 14 = .ok (.aload_n 0, 1) := by decide +kernel
theorem d_Text_emit_15 : decode prog_11_method_4_code 15 = .ok (.getfield 46, 3) := by decide +kernel
theorem d_Text_emit_18 : decode prog_11_method_4_code 18 = .ok (.iload_n 1, 1) := by decide +kernel
theorem d_Text_emit_19 : decode prog_11_method_4_code 19 = .ok (.iastore, 1) := by decide +kernel
theorem d_Text_emit_20 : decode prog_11_method_4_code 20 = .ok (.aload_n 0, 1) := by decide +kernel
theorem d_Text_emit_21 : decode prog_11_method_4_code 21 = .ok (.getfield 30, 3) := by decide +kernel
theorem d_Text_emit_24 : decode prog_11_method_4_code 24 = .ok (.aload_n 0, 1) := by decide +kernel
theorem d_Text_emit_25 : decode prog_11_method_4_code 25 = .ok (.getfield 46, 3) := by decide +kernel
theorem d_Text_emit_28 : decode prog_11_method_4_code 28 = .ok (.iload_n 2, 1) := by decide +kernel
theorem d_Text_emit_29 : decode prog_11_method_4_code 29 = .ok (.iastore, 1) := by decide +kernel
theorem d_Text_emit_30 : decode prog_11_method_4_code 30 = .ok (.aload_n 0, 1) := by decide +kernel
theorem d_Text_emit_31 : decode prog_11_method_4_code 31 = .ok (.dup, 1) := by decide +kernel
theorem d_Text_emit_32 : decode prog_11_method_4_code 32 = .ok (.getfield 46, 3) := by decide +kernel
theorem d_Text_emit_35 : decode prog_11_method_4_code 35 = .ok (.iconst 1, 1) := by decide +kernel
theorem d_Text_emit_36 : decode prog_11_method_4_code 36 = .ok (.iadd, 1) := by decide +kernel
theorem d_Text_emit_37 : decode prog_11_method_4_code 37 = .ok (.putfield 46, 3) := by decide +kernel
theorem d_Text_emit_40 : decode prog_11_method_4_code 40 = .ok (.return_, 1) := by decide +kernel
noncomputable def F_Text_emit : Sm := sSeq (sIf (o2 (fun x y => decide (x < y)) (gI 2 10 (vR 0)) (kI (ii 408))) (sSeq (sAst 0 (gR 2 8 (vR 0)) (gI 2 10 (vR 0)) (vI 1)) (sSeq (sAst 0 (gR 2 9 (vR 0)) (gI 2 10 (vR 0)) (vI 2)) (sFop 2 10 (vR 0) (fun x y => x + y) (kI (ii 1))))) (sSkip)) (sRetV)
theorem mf_Text_emit : Mf y_Text_emit prog_11_method_4_code 3 none 2 := ⟨tw_195, tw_124, by decide +kernel⟩
noncomputable def D_Text_emit : Dn := runS [1, 1, 1] F_Text_emit
theorem ok_Text_emit : MOK y_Text_emit prog_11_method_4_code 3 none 0 0 0 D_Text_emit := MOK.of (by decide) (by decide) (show SO Y_Text_emit [(0, 1), (1, 1), (2, 1)] [(0, 1), (1, 1), (2, 1)] 0 41 (([], 0), ([], 0)) F_Text_emit from
  (s_seq (sl1 := [(0, 1), (1, 1), (2, 1)]) (p1 := 40) (s_if (pt := 10) (pf := 40) (c_icmp_geF (p1 := 4) (p2 := 7) (tg := 40) (e_gI (k0 := 10) (p1 := 1) cf_2 (e_aload_n (k0 := 0) d_Text_emit_0 rfl rfl) (by decide) tw_237 d_Text_emit_1) (e_sipush d_Text_emit_4 (by decide)) d_Text_emit_7 rfl) (s_seq (sl1 := [(0, 1), (1, 1), (2, 1)]) (p1 := 20) (s_ast (p1 := 14) (p2 := 18) (p3 := 19) (e_gR (k0 := 8) (p1 := 11) cf_2 (e_aload_n (k0 := 0) d_Text_emit_10 rfl rfl) (by decide) tw_233 d_Text_emit_11) (e_gI (k0 := 10) (p1 := 15) cf_2 (e_aload_n (k0 := 0) d_Text_emit_14 rfl rfl) (by decide) tw_237 d_Text_emit_15) (e_iload_n (k0 := 1) d_Text_emit_18 rfl rfl) (as_i d_Text_emit_19)) (s_seq (sl1 := [(0, 1), (1, 1), (2, 1)]) (p1 := 30) (s_ast (p1 := 24) (p2 := 28) (p3 := 29) (e_gR (k0 := 9) (p1 := 21) cf_2 (e_aload_n (k0 := 0) d_Text_emit_20 rfl rfl) (by decide) tw_235 d_Text_emit_21) (e_gI (k0 := 10) (p1 := 25) cf_2 (e_aload_n (k0 := 0) d_Text_emit_24 rfl rfl) (by decide) tw_237 d_Text_emit_25) (e_iload_n (k0 := 2) d_Text_emit_28 rfl rfl) (as_i d_Text_emit_29)) (s_fop (k0 := 10) (p1 := 31) (p2 := 36) cf_2 (e_aload_n (k0 := 0) d_Text_emit_30 rfl rfl) d_Text_emit_31 d_Text_emit_32 (e_iconst d_Text_emit_35 (by decide)) (op_iadd d_Text_emit_36) (by decide) rfl tw_237 tw_237 rfl d_Text_emit_37))) s_skip) (s_retV rfl d_Text_emit_40)))
/-! BlinkerCross$Text.plainLaw(III)V -/
abbrev y_Text_plainLaw : MethodName := ⟨"BlinkerCross$Text", "plainLaw", "(III)V"⟩
abbrev Y_Text_plainLaw : Yt := (prog_11_method_3_code, 4, "BlinkerCross$Text", 1, none, "plainLaw")
theorem d_Text_plainLaw_0 : decode prog_11_method_3_code 0 = .ok (.aload_n 0, 1) := by decide +kernel
theorem d_Text_plainLaw_1 : decode prog_11_method_3_code 1 = .ok (.getfield 24, 3) := by decide +kernel
theorem d_Text_plainLaw_4 : decode prog_11_method_3_code 4 = .ok (.iload_n 1, 1) := by decide +kernel
theorem d_Text_plainLaw_5 : decode prog_11_method_3_code 5 = .ok (.aload_n 0, 1) := by decide +kernel
theorem d_Text_plainLaw_6 : decode prog_11_method_3_code 6 = .ok (.getfield 46, 3) := by decide +kernel
theorem d_Text_plainLaw_9 : decode prog_11_method_3_code 9 = .ok (.iastore, 1) := by decide +kernel
theorem d_Text_plainLaw_10 : decode prog_11_method_3_code 10 = .ok (.aload_n 0, 1) := by decide +kernel
theorem d_Text_plainLaw_11 : decode prog_11_method_3_code 11 = .ok (.iload_n 2, 1) := by decide +kernel
theorem d_Text_plainLaw_12 : decode prog_11_method_3_code 12 = .ok (.iload_n 3, 1) := by decide +kernel
theorem d_Text_plainLaw_13 : decode prog_11_method_3_code 13 = .ok (.invokevirtual 53, 3) := by decide +kernel
theorem d_Text_plainLaw_16 : decode prog_11_method_3_code 16 = .ok (.aload_n 0, 1) := by decide +kernel
theorem d_Text_plainLaw_17 : decode prog_11_method_3_code 17 = .ok (.iconst 3, 1) := by decide +kernel
theorem d_Text_plainLaw_18 : decode prog_11_method_3_code 18 = .ok (.iconst 0, 1) := by decide +kernel
theorem d_Text_plainLaw_19 : decode prog_11_method_3_code 19 = .ok (.invokevirtual 53, 3) := by decide +kernel
theorem d_Text_plainLaw_22 : decode prog_11_method_3_code 22 = .ok (.return_, 1) := by decide +kernel
noncomputable def F_Text_plainLaw : Sm := sSeq (sAst 0 (gR 2 7 (vR 0)) (vI 1) (gI 2 10 (vR 0))) (sSeq (sCall (mV 2 D_Text_emit) [asV Value.ref (vR 0), asV Value.int (vI 2), asV Value.int (vI 3)]) (sSeq (sCall (mV 2 D_Text_emit) [asV Value.ref (vR 0), asV Value.int (kI (ii 3)), asV Value.int (kI (ii 0))]) (sRetV)))
theorem mf_Text_plainLaw : Mf y_Text_plainLaw prog_11_method_3_code 4 none 3 := ⟨tw_191, tw_124, by decide +kernel⟩
noncomputable def D_Text_plainLaw : Dn := runS [1, 1, 1, 1] F_Text_plainLaw
theorem ok_Text_plainLaw : MOK y_Text_plainLaw prog_11_method_3_code 4 none 1 0 0 D_Text_plainLaw := MOK.of (by decide) (by decide) (show SO Y_Text_plainLaw [(0, 1), (1, 1), (2, 1), (3, 1)] [(0, 1), (1, 1), (2, 1), (3, 1)] 0 23 (([], 0), ([], 0)) F_Text_plainLaw from
  (s_seq (sl1 := [(0, 1), (1, 1), (2, 1), (3, 1)]) (p1 := 10) (s_ast (p1 := 4) (p2 := 5) (p3 := 9) (e_gR (k0 := 7) (p1 := 1) cf_2 (e_aload_n (k0 := 0) d_Text_plainLaw_0 rfl rfl) (by decide) tw_230 d_Text_plainLaw_1) (e_iload_n (k0 := 1) d_Text_plainLaw_4 rfl rfl) (e_gI (k0 := 10) (p1 := 6) cf_2 (e_aload_n (k0 := 0) d_Text_plainLaw_5 rfl rfl) (by decide) tw_237 d_Text_plainLaw_6) (as_i d_Text_plainLaw_9)) (s_seq (sl1 := [(0, 1), (1, 1), (2, 1), (3, 1)]) (p1 := 16) (s_call (p1 := 13) (a_cons (ι := Value.ref) (k0 := 1) (p1 := 11) (fun _ => rfl) (e_aload_n (k0 := 0) d_Text_plainLaw_10 rfl rfl) (a_cons (ι := Value.int) (k0 := 1) (p1 := 12) (fun _ => rfl) (e_iload_n (k0 := 2) d_Text_plainLaw_11 rfl rfl) (a_cons (ι := Value.int) (k0 := 1) (p1 := 13) (fun _ => rfl) (e_iload_n (k0 := 3) d_Text_plainLaw_12 rfl rfl) a_nil))) (k_virt ok_Text_emit mf_Text_emit ⟨tw_193, tw_194⟩ rfl tw_192 d_Text_plainLaw_13 (by decide) (by decide) (by decide))) (s_seq (sl1 := [(0, 1), (1, 1), (2, 1), (3, 1)]) (p1 := 22) (s_call (p1 := 19) (a_cons (ι := Value.ref) (k0 := 1) (p1 := 17) (fun _ => rfl) (e_aload_n (k0 := 0) d_Text_plainLaw_16 rfl rfl) (a_cons (ι := Value.int) (k0 := 1) (p1 := 18) (fun _ => rfl) (e_iconst d_Text_plainLaw_17 (by decide)) (a_cons (ι := Value.int) (k0 := 1) (p1 := 19) (fun _ => rfl) (e_iconst d_Text_plainLaw_18 (by decide)) a_nil))) (k_virt ok_Text_emit mf_Text_emit ⟨tw_193, tw_194⟩ rfl tw_192 d_Text_plainLaw_19 (by decide) (by decide) (by decide))) (s_retV rfl d_Text_plainLaw_22)))))
/-! BlinkerCross$Text.clear()V -/
abbrev y_Text_clear : MethodName := ⟨"BlinkerCross$Text", "clear", "()V"⟩
abbrev Y_Text_clear : Yt := (prog_11_method_2_code, 2, "BlinkerCross$Text", 2, none, "clear")
theorem d_Text_clear_0 : decode prog_11_method_2_code 0 = .ok (.aload_n 0, 1) := by decide +kernel
theorem d_Text_clear_1 : decode prog_11_method_2_code 1 = .ok (.iconst 0, 1) := by decide +kernel
theorem d_Text_clear_2 : decode prog_11_method_2_code 2 = .ok (.putfield 36, 3) := by decide +kernel
theorem d_Text_clear_5 : decode prog_11_method_2_code 5 = .ok (.aload_n 0, 1) := by decide +kernel
theorem d_Text_clear_6 : decode prog_11_method_2_code 6 = .ok (.iconst 0, 1) := by decide +kernel
theorem d_Text_clear_7 : decode prog_11_method_2_code 7 = .ok (.putfield 40, 3) := by decide +kernel
theorem d_Text_clear_10 : decode prog_11_method_2_code 10 = .ok (.aload_n 0, 1) := by decide +kernel
theorem d_Text_clear_11 : decode prog_11_method_2_code 11 = .ok (.iconst 0, 1) := by decide +kernel
theorem d_Text_clear_12 : decode prog_11_method_2_code 12 = .ok (.putfield 43, 3) := by decide +kernel
theorem d_Text_clear_15 : decode prog_11_method_2_code 15 = .ok (.iconst 0, 1) := by decide +kernel
theorem d_Text_clear_16 : decode prog_11_method_2_code 16 = .ok (.istore_n 1, 1) := by decide +kernel
theorem d_Text_clear_17 : decode prog_11_method_2_code 17 = .ok (.iload_n 1, 1) := by decide +kernel
theorem d_Text_clear_18 : decode prog_11_method_2_code 18 = .ok (.bipush 30, 2) := by decide +kernel
theorem d_Text_clear_20 : decode prog_11_method_2_code 20 = .ok (.if_icmp .ge 16, 3) := by decide +kernel
theorem d_Text_clear_23 : decode prog_11_method_2_code 23 = .ok (.aload_n 0, 1) := by decide +kernel
theorem d_Text_clear_24 : decode prog_11_method_2_code 24 = .ok (.getfield 21, 3) := by decide +kernel
theorem d_Text_clear_27 : decode prog_11_method_2_code 27 = .ok (.iload_n 1, 1) := by decide +kernel
theorem d_Text_clear_28 : decode prog_11_method_2_code 28 = .ok (.iconst 0, 1) := by decide +kernel
theorem d_Text_clear_29 : decode prog_11_method_2_code 29 = .ok (.iastore, 1) := by decide +kernel
theorem d_Text_clear_30 : decode prog_11_method_2_code 30 = .ok (.iinc 1 1, 3) := by decide +kernel
theorem d_Text_clear_33 : decode prog_11_method_2_code 33 = .ok (.goto (-16), 3) := by decide +kernel
theorem d_Text_clear_36 : decode prog_11_method_2_code 36 = .ok (.aload_n 0, 1) := by decide +kernel
theorem d_Text_clear_37 : decode prog_11_method_2_code 37 = .ok (.iconst 0, 1) := by decide +kernel
theorem d_Text_clear_38 : decode prog_11_method_2_code 38 = .ok (.putfield 46, 3) := by decide +kernel
theorem d_Text_clear_41 : decode prog_11_method_2_code 41 = .ok (.aload_n 0, 1) := by decide +kernel
theorem d_Text_clear_42 : decode prog_11_method_2_code 42 = .ok (.iconst 0, 1) := by decide +kernel
theorem d_Text_clear_43 : decode prog_11_method_2_code 43 = .ok (.iconst 1, 1) := by decide +kernel
theorem d_Text_clear_44 : decode prog_11_method_2_code 44 = .ok (.iconst 0, 1) := by decide +kernel
theorem d_Text_clear_45 : decode prog_11_method_2_code 45 = .ok (.invokevirtual 49, 3) := by decide +kernel
theorem d_Text_clear_48 : decode prog_11_method_2_code 48 = .ok (.aload_n 0, 1) := by decide +kernel
theorem d_Text_clear_49 : decode prog_11_method_2_code 49 = .ok (.iconst 1, 1) := by decide +kernel
theorem d_Text_clear_50 : decode prog_11_method_2_code 50 = .ok (.iconst 1, 1) := by decide +kernel
theorem d_Text_clear_51 : decode prog_11_method_2_code 51 = .ok (.iconst 4, 1) := by decide +kernel
theorem d_Text_clear_52 : decode prog_11_method_2_code 52 = .ok (.invokevirtual 49, 3) := by decide +kernel
theorem d_Text_clear_55 : decode prog_11_method_2_code 55 = .ok (.aload_n 0, 1) := by decide +kernel
theorem d_Text_clear_56 : decode prog_11_method_2_code 56 = .ok (.iconst 2, 1) := by decide +kernel
theorem d_Text_clear_57 : decode prog_11_method_2_code 57 = .ok (.iconst 0, 1) := by decide +kernel
theorem d_Text_clear_58 : decode prog_11_method_2_code 58 = .ok (.iconst 0, 1) := by decide +kernel
theorem d_Text_clear_59 : decode prog_11_method_2_code 59 = .ok (.invokevirtual 49, 3) := by decide +kernel
theorem d_Text_clear_62 : decode prog_11_method_2_code 62 = .ok (.aload_n 0, 1) := by decide +kernel
theorem d_Text_clear_63 : decode prog_11_method_2_code 63 = .ok (.iconst 3, 1) := by decide +kernel
theorem d_Text_clear_64 : decode prog_11_method_2_code 64 = .ok (.iconst 0, 1) := by decide +kernel
theorem d_Text_clear_65 : decode prog_11_method_2_code 65 = .ok (.iconst 0, 1) := by decide +kernel
theorem d_Text_clear_66 : decode prog_11_method_2_code 66 = .ok (.invokevirtual 49, 3) := by decide +kernel
theorem d_Text_clear_69 : decode prog_11_method_2_code 69 = .ok (.return_, 1) := by decide +kernel
noncomputable def Lc_Text_clear_1 : Xp Bool := o2 (fun x y => decide (x < y)) (vI 1) (kI (ii 30))
noncomputable def Lb_Text_clear_1 : Sm := sAst 0 (gR 2 6 (vR 0)) (vI 1) (kI (ii 0))
noncomputable def Lu_Text_clear_1 : Sm := sInc 1 (ii 1)
noncomputable def F_Text_clear : Sm := sSeq (sPut 2 0 (vR 0) (asV Value.int (kI (ii 0)))) (sSeq (sPut 2 1 (vR 0) (asV Value.int (kI (ii 0)))) (sSeq (sPut 2 2 (vR 0) (asV Value.int (kI (ii 0)))) (sSeq (sBlk 1 (sSeq (sDecl (asV Value.int (kI (ii 0)))) (sWh (Lc_Text_clear_1) (Lb_Text_clear_1) Lu_Text_clear_1))) (sSeq (sPut 2 10 (vR 0) (asV Value.int (kI (ii 0)))) (sSeq (sCall (mV 2 D_Text_plainLaw) [asV Value.ref (vR 0), asV Value.int (kI (ii 0)), asV Value.int (kI (ii 1)), asV Value.int (kI (ii 0))]) (sSeq (sCall (mV 2 D_Text_plainLaw) [asV Value.ref (vR 0), asV Value.int (kI (ii 1)), asV Value.int (kI (ii 1)), asV Value.int (kI (ii 4))]) (sSeq (sCall (mV 2 D_Text_plainLaw) [asV Value.ref (vR 0), asV Value.int (kI (ii 2)), asV Value.int (kI (ii 0)), asV Value.int (kI (ii 0))]) (sSeq (sCall (mV 2 D_Text_plainLaw) [asV Value.ref (vR 0), asV Value.int (kI (ii 3)), asV Value.int (kI (ii 0)), asV Value.int (kI (ii 0))]) (sRetV)))))))))
theorem mf_Text_clear : Mf y_Text_clear prog_11_method_2_code 2 none 0 := ⟨tw_187, tw_124, by decide +kernel⟩
noncomputable def D_Text_clear : Dn := runS [1] F_Text_clear
theorem ok_Text_clear : MOK y_Text_clear prog_11_method_2_code 2 none 2 0 0 D_Text_clear := MOK.of (by decide) (by decide) (show SO Y_Text_clear [(0, 1)] [(0, 1)] 0 70 (([], 0), ([], 0)) F_Text_clear from
  (s_seq (sl1 := [(0, 1)]) (p1 := 5) (s_put (k0 := 0) (p1 := 1) (p2 := 2) cf_2 (e_aload_n (k0 := 0) d_Text_clear_0 rfl rfl) (e_iconst d_Text_clear_1 (by decide)) (by decide) fk_i tw_196 (Or.inl rfl) d_Text_clear_2) (s_seq (sl1 := [(0, 1)]) (p1 := 10) (s_put (k0 := 1) (p1 := 6) (p2 := 7) cf_2 (e_aload_n (k0 := 0) d_Text_clear_5 rfl rfl) (e_iconst d_Text_clear_6 (by decide)) (by decide) fk_i tw_204 (Or.inl rfl) d_Text_clear_7) (s_seq (sl1 := [(0, 1)]) (p1 := 15) (s_put (k0 := 2) (p1 := 11) (p2 := 12) cf_2 (e_aload_n (k0 := 0) d_Text_clear_10 rfl rfl) (e_iconst d_Text_clear_11 (by decide)) (by decide) fk_i tw_214 (Or.inl rfl) d_Text_clear_12) (s_seq (sl1 := [(0, 1)]) (p1 := 36) (s_blk (sl1 := [(0, 1), (1, 1)]) (s_seq (sl1 := [(0, 1), (1, 1)]) (p1 := 17) (s_decl (p1 := 16) (e_iconst d_Text_clear_15 (by decide)) (t_istore_n d_Text_clear_16 rfl (by decide)) rfl) (s_for (pt := 23) (pu := 30) (pf := 36) (pg := 0) (c_icmp_geF (p1 := 18) (p2 := 20) (tg := 36) (e_iload_n (k0 := 1) d_Text_clear_17 rfl rfl) (e_bipush d_Text_clear_18 (by decide)) d_Text_clear_20 rfl) (s_ast (p1 := 27) (p2 := 28) (p3 := 29) (e_gR (k0 := 6) (p1 := 24) cf_2 (e_aload_n (k0 := 0) d_Text_clear_23 rfl rfl) (by decide) tw_227 d_Text_clear_24) (e_iload_n (k0 := 1) d_Text_clear_27 rfl rfl) (e_iconst d_Text_clear_28 (by decide)) (as_i d_Text_clear_29)) (s_goto (p1 := 33) (s_inc (k0 := 1) d_Text_clear_30 rfl rfl (Nat.le_of_ble_eq_true rfl) rfl) d_Text_clear_33 rfl))) rfl) (s_seq (sl1 := [(0, 1)]) (p1 := 41) (s_put (k0 := 10) (p1 := 37) (p2 := 38) cf_2 (e_aload_n (k0 := 0) d_Text_clear_36 rfl rfl) (e_iconst d_Text_clear_37 (by decide)) (by decide) fk_i tw_237 (Or.inl rfl) d_Text_clear_38) (s_seq (sl1 := [(0, 1)]) (p1 := 48) (s_call (p1 := 45) (a_cons (ι := Value.ref) (k0 := 1) (p1 := 42) (fun _ => rfl) (e_aload_n (k0 := 0) d_Text_clear_41 rfl rfl) (a_cons (ι := Value.int) (k0 := 1) (p1 := 43) (fun _ => rfl) (e_iconst d_Text_clear_42 (by decide)) (a_cons (ι := Value.int) (k0 := 1) (p1 := 44) (fun _ => rfl) (e_iconst d_Text_clear_43 (by decide)) (a_cons (ι := Value.int) (k0 := 1) (p1 := 45) (fun _ => rfl) (e_iconst d_Text_clear_44 (by decide)) a_nil)))) (k_virt ok_Text_plainLaw mf_Text_plainLaw ⟨tw_190, tw_0⟩ rfl tw_188 d_Text_clear_45 (by decide) (by decide) (by decide))) (s_seq (sl1 := [(0, 1)]) (p1 := 55) (s_call (p1 := 52) (a_cons (ι := Value.ref) (k0 := 1) (p1 := 49) (fun _ => rfl) (e_aload_n (k0 := 0) d_Text_clear_48 rfl rfl) (a_cons (ι := Value.int) (k0 := 1) (p1 := 50) (fun _ => rfl) (e_iconst d_Text_clear_49 (by decide)) (a_cons (ι := Value.int) (k0 := 1) (p1 := 51) (fun _ => rfl) (e_iconst d_Text_clear_50 (by decide)) (a_cons (ι := Value.int) (k0 := 1) (p1 := 52) (fun _ => rfl) (e_iconst d_Text_clear_51 (by decide)) a_nil)))) (k_virt ok_Text_plainLaw mf_Text_plainLaw ⟨tw_190, tw_0⟩ rfl tw_188 d_Text_clear_52 (by decide) (by decide) (by decide))) (s_seq (sl1 := [(0, 1)]) (p1 := 62) (s_call (p1 := 59) (a_cons (ι := Value.ref) (k0 := 1) (p1 := 56) (fun _ => rfl) (e_aload_n (k0 := 0) d_Text_clear_55 rfl rfl) (a_cons (ι := Value.int) (k0 := 1) (p1 := 57) (fun _ => rfl) (e_iconst d_Text_clear_56 (by decide)) (a_cons (ι := Value.int) (k0 := 1) (p1 := 58) (fun _ => rfl) (e_iconst d_Text_clear_57 (by decide)) (a_cons (ι := Value.int) (k0 := 1) (p1 := 59) (fun _ => rfl) (e_iconst d_Text_clear_58 (by decide)) a_nil)))) (k_virt ok_Text_plainLaw mf_Text_plainLaw ⟨tw_190, tw_0⟩ rfl tw_188 d_Text_clear_59 (by decide) (by decide) (by decide))) (s_seq (sl1 := [(0, 1)]) (p1 := 69) (s_call (p1 := 66) (a_cons (ι := Value.ref) (k0 := 1) (p1 := 63) (fun _ => rfl) (e_aload_n (k0 := 0) d_Text_clear_62 rfl rfl) (a_cons (ι := Value.int) (k0 := 1) (p1 := 64) (fun _ => rfl) (e_iconst d_Text_clear_63 (by decide)) (a_cons (ι := Value.int) (k0 := 1) (p1 := 65) (fun _ => rfl) (e_iconst d_Text_clear_64 (by decide)) (a_cons (ι := Value.int) (k0 := 1) (p1 := 66) (fun _ => rfl) (e_iconst d_Text_clear_65 (by decide)) a_nil)))) (k_virt ok_Text_plainLaw mf_Text_plainLaw ⟨tw_190, tw_0⟩ rfl tw_188 d_Text_clear_66 (by decide) (by decide) (by decide))) (s_retV rfl d_Text_clear_69)))))))))))
/-! BlinkerCross$Text.aimHere(I)V -/
abbrev y_Text_aimHere : MethodName := ⟨"BlinkerCross$Text", "aimHere", "(I)V"⟩
abbrev Y_Text_aimHere : Yt := (prog_11_method_5_code, 2, "BlinkerCross$Text", 0, none, "aimHere")
theorem d_Text_aimHere_0 : decode prog_11_method_5_code 0 = .ok (.iload_n 1, 1) := by decide +kernel
theorem d_Text_aimHere_1 : decode prog_11_method_5_code 1 = .ok (.ifCond .lt 21, 3) := by decide +kernel
theorem d_Text_aimHere_4 : decode prog_11_method_5_code 4 = .ok (.iload_n 1, 1) := by decide +kernel
theorem d_Text_aimHere_5 : decode prog_11_method_5_code 5 = .ok (.aload_n 0, 1) := by decide +kernel
theorem d_Text_aimHere_6 : decode prog_11_method_5_code 6 = .ok (.getfield 46, 3) := by decide +kernel
theorem d_Text_aimHere_9 : decode prog_11_method_5_code 9 = .ok (.if_icmp .ge 13, 3) := by decide +kernel
theorem d_Text_aimHere_12 : decode prog_11_method_5_code 12 = .ok (.aload_n 0, 1) := by decide +kernel
theorem d_Text_aimHere_13 : decode prog_11_method_5_code 13 = .ok (.getfield 30, 3) := by decide +kernel
theorem d_Text_aimHere_16 : decode prog_11_method_5_code 16 = .ok (.iload_n 1, 1) := by decide +kernel
theorem d_Text_aimHere_17 : decode prog_11_method_5_code 17 = .ok (.aload_n 0, 1) := by decide +kernel
theorem d_Text_aimHere_18 : decode prog_11_method_5_code 18 = .ok (.getfield 46, 3) := by decide +kernel
theorem d_Text_aimHere_21 : decode prog_11_method_5_code 21 = .ok (.iastore, 1) := by decide +kernel
theorem d_Text_aimHere_22 : decode prog_11_method_5_code 22 = .ok (.return_, 1) := by decide +kernel
noncomputable def F_Text_aimHere : Sm := sSeq (sIf (cAnd (o1 (fun x => decide (x ≥ 0)) (vI 1)) (o2 (fun x y => decide (x < y)) (vI 1) (gI 2 10 (vR 0)))) (sAst 0 (gR 2 9 (vR 0)) (vI 1) (gI 2 10 (vR 0))) (sSkip)) (sRetV)
theorem mf_Text_aimHere : Mf y_Text_aimHere prog_11_method_5_code 2 none 1 := ⟨tw_807, tw_124, by decide +kernel⟩
noncomputable def D_Text_aimHere : Dn := runS [1, 1] F_Text_aimHere
theorem ok_Text_aimHere : MOK y_Text_aimHere prog_11_method_5_code 2 none 0 0 0 D_Text_aimHere := MOK.of (by decide) (by decide) (show SO Y_Text_aimHere [(0, 1), (1, 1)] [(0, 1), (1, 1)] 0 23 (([], 0), ([], 0)) F_Text_aimHere from
  (s_seq (sl1 := [(0, 1), (1, 1)]) (p1 := 22) (s_if (pt := 12) (pf := 22) (c_and (p1 := 4) (c_if_ltF (p1 := 1) (tg := 22) (e_iload_n (k0 := 1) d_Text_aimHere_0 rfl rfl) d_Text_aimHere_1 rfl) (c_icmp_geF (p1 := 5) (p2 := 9) (tg := 22) (e_iload_n (k0 := 1) d_Text_aimHere_4 rfl rfl) (e_gI (k0 := 10) (p1 := 6) cf_2 (e_aload_n (k0 := 0) d_Text_aimHere_5 rfl rfl) (by decide) tw_237 d_Text_aimHere_6) d_Text_aimHere_9 rfl)) (s_ast (p1 := 16) (p2 := 17) (p3 := 21) (e_gR (k0 := 9) (p1 := 13) cf_2 (e_aload_n (k0 := 0) d_Text_aimHere_12 rfl rfl) (by decide) tw_235 d_Text_aimHere_13) (e_iload_n (k0 := 1) d_Text_aimHere_16 rfl rfl) (e_gI (k0 := 10) (p1 := 18) cf_2 (e_aload_n (k0 := 0) d_Text_aimHere_17 rfl rfl) (by decide) tw_237 d_Text_aimHere_18) (as_i d_Text_aimHere_21)) s_skip) (s_retV rfl d_Text_aimHere_22)))
/-! BlinkerCross$Text.become(LBlinkerCross$Text;)V -/
abbrev y_Text_become : MethodName := ⟨"BlinkerCross$Text", "become", "(LBlinkerCross$Text;)V"⟩
abbrev Y_Text_become : Yt := (prog_11_method_6_code, 2, "BlinkerCross$Text", 1, none, "become")
theorem d_Text_become_0 : decode prog_11_method_6_code 0 = .ok (.aload_n 0, 1) := by decide +kernel
theorem d_Text_become_1 : decode prog_11_method_6_code 1 = .ok (.aload_n 1, 1) := by decide +kernel
theorem d_Text_become_2 : decode prog_11_method_6_code 2 = .ok (.getfield 36, 3) := by decide +kernel
theorem d_Text_become_5 : decode prog_11_method_6_code 5 = .ok (.putfield 36, 3) := by decide +kernel
theorem d_Text_become_8 : decode prog_11_method_6_code 8 = .ok (.aload_n 0, 1) := by decide +kernel
theorem d_Text_become_9 : decode prog_11_method_6_code 9 = .ok (.aload_n 1, 1) := by decide +kernel
theorem d_Text_become_10 : decode prog_11_method_6_code 10 = .ok (.getfield 40, 3) := by decide +kernel
theorem d_Text_become_13 : decode prog_11_method_6_code 13 = .ok (.putfield 40, 3) := by decide +kernel
theorem d_Text_become_16 : decode prog_11_method_6_code 16 = .ok (.aload_n 0, 1) := by decide +kernel
theorem d_Text_become_17 : decode prog_11_method_6_code 17 = .ok (.aload_n 1, 1) := by decide +kernel
theorem d_Text_become_18 : decode prog_11_method_6_code 18 = .ok (.getfield 43, 3) := by decide +kernel
theorem d_Text_become_21 : decode prog_11_method_6_code 21 = .ok (.putfield 43, 3) := by decide +kernel
theorem d_Text_become_24 : decode prog_11_method_6_code 24 = .ok (.aload_n 0, 1) := by decide +kernel
theorem d_Text_become_25 : decode prog_11_method_6_code 25 = .ok (.aload_n 1, 1) := by decide +kernel
theorem d_Text_become_26 : decode prog_11_method_6_code 26 = .ok (.getfield 46, 3) := by decide +kernel
theorem d_Text_become_29 : decode prog_11_method_6_code 29 = .ok (.putfield 46, 3) := by decide +kernel
theorem d_Text_become_32 : decode prog_11_method_6_code 32 = .ok (.aload_n 1, 1) := by decide +kernel
theorem d_Text_become_33 : decode prog_11_method_6_code 33 = .ok (.getfield 9, 3) := by decide +kernel
theorem d_Text_become_36 : decode prog_11_method_6_code 36 = .ok (.iconst 0, 1) := by decide +kernel
theorem d_Text_become_37 : decode prog_11_method_6_code 37 = .ok (.aload_n 0, 1) := by decide +kernel
theorem d_Text_become_38 : decode prog_11_method_6_code 38 = .ok (.getfield 9, 3) := by decide +kernel
theorem d_Text_become_41 : decode prog_11_method_6_code 41 = .ok (.iconst 0, 1) := by decide +kernel
theorem d_Text_become_42 : decode prog_11_method_6_code 42 = .ok (.bipush 6, 2) := by decide +kernel
theorem d_Text_become_44 : decode prog_11_method_6_code 44 = .ok (.invokestatic 57, 3) := by decide +kernel
theorem d_Text_become_47 : decode prog_11_method_6_code 47 = .ok (.aload_n 1, 1) := by decide +kernel
theorem d_Text_become_48 : decode prog_11_method_6_code 48 = .ok (.getfield 15, 3) := by decide +kernel
theorem d_Text_become_51 : decode prog_11_method_6_code 51 = .ok (.iconst 0, 1) := by decide +kernel
theorem d_Text_become_52 : decode prog_11_method_6_code 52 = .ok (.aload_n 0, 1) := by decide +kernel
theorem d_Text_become_53 : decode prog_11_method_6_code 53 = .ok (.getfield 15, 3) := by decide +kernel
theorem d_Text_become_56 : decode prog_11_method_6_code 56 = .ok (.iconst 0, 1) := by decide +kernel
theorem d_Text_become_57 : decode prog_11_method_6_code 57 = .ok (.iconst 5, 1) := by decide +kernel
theorem d_Text_become_58 : decode prog_11_method_6_code 58 = .ok (.invokestatic 57, 3) := by decide +kernel
theorem d_Text_become_61 : decode prog_11_method_6_code 61 = .ok (.aload_n 1, 1) := by decide +kernel
theorem d_Text_become_62 : decode prog_11_method_6_code 62 = .ok (.getfield 18, 3) := by decide +kernel
theorem d_Text_become_65 : decode prog_11_method_6_code 65 = .ok (.iconst 0, 1) := by decide +kernel
theorem d_Text_become_66 : decode prog_11_method_6_code 66 = .ok (.aload_n 0, 1) := by decide +kernel
theorem d_Text_become_67 : decode prog_11_method_6_code 67 = .ok (.getfield 18, 3) := by decide +kernel
theorem d_Text_become_70 : decode prog_11_method_6_code 70 = .ok (.iconst 0, 1) := by decide +kernel
theorem d_Text_become_71 : decode prog_11_method_6_code 71 = .ok (.iconst 5, 1) := by decide +kernel
theorem d_Text_become_72 : decode prog_11_method_6_code 72 = .ok (.invokestatic 57, 3) := by decide +kernel
theorem d_Text_become_75 : decode prog_11_method_6_code 75 = .ok (.aload_n 1, 1) := by decide +kernel
theorem d_Text_become_76 : decode prog_11_method_6_code 76 = .ok (.getfield 21, 3) := by decide +kernel
theorem d_Text_become_79 : decode prog_11_method_6_code 79 = .ok (.iconst 0, 1) := by decide +kernel
theorem d_Text_become_80 : decode prog_11_method_6_code 80 = .ok (.aload_n 0, 1) := by decide +kernel
theorem d_Text_become_81 : decode prog_11_method_6_code 81 = .ok (.getfield 21, 3) := by decide +kernel
theorem d_Text_become_84 : decode prog_11_method_6_code 84 = .ok (.iconst 0, 1) := by decide +kernel
theorem d_Text_become_85 : decode prog_11_method_6_code 85 = .ok (.bipush 30, 2) := by decide +kernel
theorem d_Text_become_87 : decode prog_11_method_6_code 87 = .ok (.invokestatic 57, 3) := by decide +kernel
theorem d_Text_become_90 : decode prog_11_method_6_code 90 = .ok (.aload_n 1, 1) := by decide +kernel
theorem d_Text_become_91 : decode prog_11_method_6_code 91 = .ok (.getfield 24, 3) := by decide +kernel
theorem d_Text_become_94 : decode prog_11_method_6_code 94 = .ok (.iconst 0, 1) := by decide +kernel
theorem d_Text_become_95 : decode prog_11_method_6_code 95 = .ok (.aload_n 0, 1) := by decide +kernel
theorem d_Text_become_96 : decode prog_11_method_6_code 96 = .ok (.getfield 24, 3) := by decide +kernel
theorem d_Text_become_99 : decode prog_11_method_6_code 99 = .ok (.iconst 0, 1) := by decide +kernel
theorem d_Text_become_100 : decode prog_11_method_6_code 100 = .ok (.iconst 4, 1) := by decide +kernel
theorem d_Text_become_101 : decode prog_11_method_6_code 101 = .ok (.invokestatic 57, 3) := by decide +kernel
theorem d_Text_become_104 : decode prog_11_method_6_code 104 = .ok (.aload_n 1, 1) := by decide +kernel
theorem d_Text_become_105 : decode prog_11_method_6_code 105 = .ok (.getfield 27, 3) := by decide +kernel
theorem d_Text_become_108 : decode prog_11_method_6_code 108 = .ok (.iconst 0, 1) := by decide +kernel
theorem d_Text_become_109 : decode prog_11_method_6_code 109 = .ok (.aload_n 0, 1) := by decide +kernel
theorem d_Text_become_110 : decode prog_11_method_6_code 110 = .ok (.getfield 27, 3) := by decide +kernel
theorem d_Text_become_113 : decode prog_11_method_6_code 113 = .ok (.iconst 0, 1) := by decide +kernel
theorem d_Text_become_114 : decode prog_11_method_6_code 114 = .ok (.aload_n 0, 1) := by decide +kernel
theorem d_Text_become_115 : decode prog_11_method_6_code 115 = .ok (.getfield 46, 3) := by decide +kernel
theorem d_Text_become_118 : decode prog_11_method_6_code 118 = .ok (.invokestatic 57, 3) := by decide +kernel
theorem d_Text_become_121 : decode prog_11_method_6_code 121 = .ok (.aload_n 1, 1) := by decide +kernel
theorem d_Text_become_122 : decode prog_11_method_6_code 122 = .ok (.getfield 30, 3) := by decide +kernel
theorem d_Text_become_125 : decode prog_11_method_6_code 125 = .ok (.iconst 0, 1) := by decide +kernel
theorem d_Text_become_126 : decode prog_11_method_6_code 126 = .ok (.aload_n 0, 1) := by decide +kernel
theorem d_Text_become_127 : decode prog_11_method_6_code 127 = .ok (.getfield 30, 3) := by decide +kernel
theorem d_Text_become_130 : decode prog_11_method_6_code 130 = .ok (.iconst 0, 1) := by decide +kernel
theorem d_Text_become_131 : decode prog_11_method_6_code 131 = .ok (.aload_n 0, 1) := by decide +kernel
theorem d_Text_become_132 : decode prog_11_method_6_code 132 = .ok (.getfield 46, 3) := by decide +kernel
theorem d_Text_become_135 : decode prog_11_method_6_code 135 = .ok (.invokestatic 57, 3) := by decide +kernel
theorem d_Text_become_138 : decode prog_11_method_6_code 138 = .ok (.return_, 1) := by decide +kernel
noncomputable def F_Text_become : Sm := sSeq (sPut 2 0 (vR 0) (asV Value.int (gI 2 0 (vR 1)))) (sSeq (sPut 2 1 (vR 0) (asV Value.int (gI 2 1 (vR 1)))) (sSeq (sPut 2 2 (vR 0) (asV Value.int (gI 2 2 (vR 1)))) (sSeq (sPut 2 10 (vR 0) (asV Value.int (gI 2 10 (vR 1)))) (sSeq (sCpy (gR 2 3 (vR 1)) (kI (ii 0)) (gR 2 3 (vR 0)) (kI (ii 0)) (kI (ii 6))) (sSeq (sCpy (gR 2 4 (vR 1)) (kI (ii 0)) (gR 2 4 (vR 0)) (kI (ii 0)) (kI (ii 5))) (sSeq (sCpy (gR 2 5 (vR 1)) (kI (ii 0)) (gR 2 5 (vR 0)) (kI (ii 0)) (kI (ii 5))) (sSeq (sCpy (gR 2 6 (vR 1)) (kI (ii 0)) (gR 2 6 (vR 0)) (kI (ii 0)) (kI (ii 30))) (sSeq (sCpy (gR 2 7 (vR 1)) (kI (ii 0)) (gR 2 7 (vR 0)) (kI (ii 0)) (kI (ii 4))) (sSeq (sCpy (gR 2 8 (vR 1)) (kI (ii 0)) (gR 2 8 (vR 0)) (kI (ii 0)) (gI 2 10 (vR 0))) (sSeq (sCpy (gR 2 9 (vR 1)) (kI (ii 0)) (gR 2 9 (vR 0)) (kI (ii 0)) (gI 2 10 (vR 0))) (sRetV)))))))))))
theorem mf_Text_become : Mf y_Text_become prog_11_method_6_code 2 none 1 := ⟨tw_851, tw_124, by decide +kernel⟩
noncomputable def D_Text_become : Dn := runS [1, 1] F_Text_become
theorem ok_Text_become : MOK y_Text_become prog_11_method_6_code 2 none 1 0 0 D_Text_become := MOK.of (by decide) (by decide) (show SO Y_Text_become [(0, 1), (1, 1)] [(0, 1), (1, 1)] 0 139 (([], 0), ([], 0)) F_Text_become from
  (s_seq (sl1 := [(0, 1), (1, 1)]) (p1 := 8) (s_put (k0 := 0) (p1 := 1) (p2 := 5) cf_2 (e_aload_n (k0 := 0) d_Text_become_0 rfl rfl) (e_gI (k0 := 0) (p1 := 2) cf_2 (e_aload_n (k0 := 1) d_Text_become_1 rfl rfl) (by decide) tw_196 d_Text_become_2) (by decide) fk_i tw_196 (Or.inl rfl) d_Text_become_5) (s_seq (sl1 := [(0, 1), (1, 1)]) (p1 := 16) (s_put (k0 := 1) (p1 := 9) (p2 := 13) cf_2 (e_aload_n (k0 := 0) d_Text_become_8 rfl rfl) (e_gI (k0 := 1) (p1 := 10) cf_2 (e_aload_n (k0 := 1) d_Text_become_9 rfl rfl) (by decide) tw_204 d_Text_become_10) (by decide) fk_i tw_204 (Or.inl rfl) d_Text_become_13) (s_seq (sl1 := [(0, 1), (1, 1)]) (p1 := 24) (s_put (k0 := 2) (p1 := 17) (p2 := 21) cf_2 (e_aload_n (k0 := 0) d_Text_become_16 rfl rfl) (e_gI (k0 := 2) (p1 := 18) cf_2 (e_aload_n (k0 := 1) d_Text_become_17 rfl rfl) (by decide) tw_214 d_Text_become_18) (by decide) fk_i tw_214 (Or.inl rfl) d_Text_become_21) (s_seq (sl1 := [(0, 1), (1, 1)]) (p1 := 32) (s_put (k0 := 10) (p1 := 25) (p2 := 29) cf_2 (e_aload_n (k0 := 0) d_Text_become_24 rfl rfl) (e_gI (k0 := 10) (p1 := 26) cf_2 (e_aload_n (k0 := 1) d_Text_become_25 rfl rfl) (by decide) tw_237 d_Text_become_26) (by decide) fk_i tw_237 (Or.inl rfl) d_Text_become_29) (s_seq (sl1 := [(0, 1), (1, 1)]) (p1 := 47) (s_cpy (p1 := 36) (p2 := 37) (p3 := 41) (p4 := 42) (p5 := 44) (e_gR (k0 := 3) (p1 := 33) cf_2 (e_aload_n (k0 := 1) d_Text_become_32 rfl rfl) (by decide) tw_217 d_Text_become_33) (e_iconst d_Text_become_36 (by decide)) (e_gR (k0 := 3) (p1 := 38) cf_2 (e_aload_n (k0 := 0) d_Text_become_37 rfl rfl) (by decide) tw_217 d_Text_become_38) (e_iconst d_Text_become_41 (by decide)) (e_bipush d_Text_become_42 (by decide)) ⟨tw_852, tw_854, tw_853, tw_141⟩ (by decide) d_Text_become_44) (s_seq (sl1 := [(0, 1), (1, 1)]) (p1 := 61) (s_cpy (p1 := 51) (p2 := 52) (p3 := 56) (p4 := 57) (p5 := 58) (e_gR (k0 := 4) (p1 := 48) cf_2 (e_aload_n (k0 := 1) d_Text_become_47 rfl rfl) (by decide) tw_221 d_Text_become_48) (e_iconst d_Text_become_51 (by decide)) (e_gR (k0 := 4) (p1 := 53) cf_2 (e_aload_n (k0 := 0) d_Text_become_52 rfl rfl) (by decide) tw_221 d_Text_become_53) (e_iconst d_Text_become_56 (by decide)) (e_iconst d_Text_become_57 (by decide)) ⟨tw_852, tw_854, tw_853, tw_141⟩ (by decide) d_Text_become_58) (s_seq (sl1 := [(0, 1), (1, 1)]) (p1 := 75) (s_cpy (p1 := 65) (p2 := 66) (p3 := 70) (p4 := 71) (p5 := 72) (e_gR (k0 := 5) (p1 := 62) cf_2 (e_aload_n (k0 := 1) d_Text_become_61 rfl rfl) (by decide) tw_224 d_Text_become_62) (e_iconst d_Text_become_65 (by decide)) (e_gR (k0 := 5) (p1 := 67) cf_2 (e_aload_n (k0 := 0) d_Text_become_66 rfl rfl) (by decide) tw_224 d_Text_become_67) (e_iconst d_Text_become_70 (by decide)) (e_iconst d_Text_become_71 (by decide)) ⟨tw_852, tw_854, tw_853, tw_141⟩ (by decide) d_Text_become_72) (s_seq (sl1 := [(0, 1), (1, 1)]) (p1 := 90) (s_cpy (p1 := 79) (p2 := 80) (p3 := 84) (p4 := 85) (p5 := 87) (e_gR (k0 := 6) (p1 := 76) cf_2 (e_aload_n (k0 := 1) d_Text_become_75 rfl rfl) (by decide) tw_227 d_Text_become_76) (e_iconst d_Text_become_79 (by decide)) (e_gR (k0 := 6) (p1 := 81) cf_2 (e_aload_n (k0 := 0) d_Text_become_80 rfl rfl) (by decide) tw_227 d_Text_become_81) (e_iconst d_Text_become_84 (by decide)) (e_bipush d_Text_become_85 (by decide)) ⟨tw_852, tw_854, tw_853, tw_141⟩ (by decide) d_Text_become_87) (s_seq (sl1 := [(0, 1), (1, 1)]) (p1 := 104) (s_cpy (p1 := 94) (p2 := 95) (p3 := 99) (p4 := 100) (p5 := 101) (e_gR (k0 := 7) (p1 := 91) cf_2 (e_aload_n (k0 := 1) d_Text_become_90 rfl rfl) (by decide) tw_230 d_Text_become_91) (e_iconst d_Text_become_94 (by decide)) (e_gR (k0 := 7) (p1 := 96) cf_2 (e_aload_n (k0 := 0) d_Text_become_95 rfl rfl) (by decide) tw_230 d_Text_become_96) (e_iconst d_Text_become_99 (by decide)) (e_iconst d_Text_become_100 (by decide)) ⟨tw_852, tw_854, tw_853, tw_141⟩ (by decide) d_Text_become_101) (s_seq (sl1 := [(0, 1), (1, 1)]) (p1 := 121) (s_cpy (p1 := 108) (p2 := 109) (p3 := 113) (p4 := 114) (p5 := 118) (e_gR (k0 := 8) (p1 := 105) cf_2 (e_aload_n (k0 := 1) d_Text_become_104 rfl rfl) (by decide) tw_233 d_Text_become_105) (e_iconst d_Text_become_108 (by decide)) (e_gR (k0 := 8) (p1 := 110) cf_2 (e_aload_n (k0 := 0) d_Text_become_109 rfl rfl) (by decide) tw_233 d_Text_become_110) (e_iconst d_Text_become_113 (by decide)) (e_gI (k0 := 10) (p1 := 115) cf_2 (e_aload_n (k0 := 0) d_Text_become_114 rfl rfl) (by decide) tw_237 d_Text_become_115) ⟨tw_852, tw_854, tw_853, tw_141⟩ (by decide) d_Text_become_118) (s_seq (sl1 := [(0, 1), (1, 1)]) (p1 := 138) (s_cpy (p1 := 125) (p2 := 126) (p3 := 130) (p4 := 131) (p5 := 135) (e_gR (k0 := 9) (p1 := 122) cf_2 (e_aload_n (k0 := 1) d_Text_become_121 rfl rfl) (by decide) tw_235 d_Text_become_122) (e_iconst d_Text_become_125 (by decide)) (e_gR (k0 := 9) (p1 := 127) cf_2 (e_aload_n (k0 := 0) d_Text_become_126 rfl rfl) (by decide) tw_235 d_Text_become_127) (e_iconst d_Text_become_130 (by decide)) (e_gI (k0 := 10) (p1 := 132) cf_2 (e_aload_n (k0 := 0) d_Text_become_131 rfl rfl) (by decide) tw_237 d_Text_become_132) ⟨tw_852, tw_854, tw_853, tw_141⟩ (by decide) d_Text_become_135) (s_retV rfl d_Text_become_138)))))))))))))

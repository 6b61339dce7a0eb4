/-! Methods: bytes, denotations, that the bytes do so (written by wip/whole/jgen.py). -/
/-! BlinkerCrossModel.term()V -/
abbrev y_M_term : MethodName := ⟨"BlinkerCrossModel", "term", "()V"⟩
abbrev Y_M_term : Yt := (prog_14_method_30_code, 1, "BlinkerCrossModel", 4, none, "term")
theorem d_M_term_0 : decode prog_14_method_30_code 0 = .ok (.aload_n 0, 1) := by decide +kernel
theorem d_M_term_1 : decode prog_14_method_30_code 1 = .ok (.getfield 86, 3) := by decide +kernel
theorem d_M_term_4 : decode prog_14_method_30_code 4 = .ok (.aload_n 0, 1) := by decide +kernel
theorem d_M_term_5 : decode prog_14_method_30_code 5 = .ok (.getfield 251, 3) := by decide +kernel
theorem d_M_term_8 : decode prog_14_method_30_code 8 = .ok (.aload_n 0, 1) := by decide +kernel
theorem d_M_term_9 : decode prog_14_method_30_code 9 = .ok (.getfield 254, 3) := by decide +kernel
theorem d_M_term_12 : decode prog_14_method_30_code 12 = .ok (.iastore, 1) := by decide +kernel
theorem d_M_term_13 : decode prog_14_method_30_code 13 = .ok (.aload_n 0, 1) := by decide +kernel
theorem d_M_term_14 : decode prog_14_method_30_code 14 = .ok (.getfield 212, 3) := by decide +kernel
theorem d_M_term_17 : decode prog_14_method_30_code 17 = .ok (.ifCond .ne 7, 3) := by decide +kernel
theorem d_M_term_20 : decode prog_14_method_30_code 20 = .ok (.aload_n 0, 1) := by decide +kernel
theorem d_M_term_21 : decode prog_14_method_30_code 21 = .ok (.invokevirtual 296, 3) := by decide +kernel
theorem d_M_term_24 : decode prog_14_method_30_code 24 = .ok (.aload_n 0, 1) := by decide +kernel
theorem d_M_term_25 : decode prog_14_method_30_code 25 = .ok (.getfield 89, 3) := by decide +kernel
theorem d_M_term_28 : decode prog_14_method_30_code 28 = .ok (.aload_n 0, 1) := by decide +kernel
theorem d_M_term_29 : decode prog_14_method_30_code 29 = .ok (.getfield 251, 3) := by decide +kernel
theorem d_M_term_32 : decode prog_14_method_30_code 32 = .ok (.aload_n 0, 1) := by decide +kernel
theorem d_M_term_33 : decode prog_14_method_30_code 33 = .ok (.getfield 254, 3) := by decide +kernel
theorem d_M_term_36 : decode prog_14_method_30_code 36 = .ok (.iastore, 1) := by decide +kernel
theorem d_M_term_37 : decode prog_14_method_30_code 37 = .ok (.aload_n 0, 1) := by decide +kernel
theorem d_M_term_38 : decode prog_14_method_30_code 38 = .ok (.dup, 1) := by decide +kernel
theorem d_M_term_39 : decode prog_14_method_30_code 39 = .ok (.getfield 251, 3) := by decide +kernel
theorem d_M_term_42 : decode prog_14_method_30_code 42 = .ok (.iconst 1, 1) := by decide +kernel
theorem d_M_term_43 : decode prog_14_method_30_code 43 = .ok (.iadd, 1) := by decide +kernel
theorem d_M_term_44 : decode prog_14_method_30_code 44 = .ok (.putfield 251, 3) := by decide +kernel
theorem d_M_term_47 : decode prog_14_method_30_code 47 = .ok (.return_, 1) := by decide +kernel
noncomputable def F_M_term : Sm := sSeq (sAst 0 (gR 12 37 (vR 0)) (gI 12 33 (vR 0)) (gI 12 39 (vR 0))) (sSeq (sIf (o1 (fun x => decide (x = 0)) (gI 12 13 (vR 0))) (sCall (mV 12 D_M_expression) [asV Value.ref (vR 0)]) (sSkip)) (sSeq (sAst 0 (gR 12 38 (vR 0)) (gI 12 33 (vR 0)) (gI 12 39 (vR 0))) (sSeq (sFop 12 33 (vR 0) (fun x y => x + y) (kI (ii 1))) (sRetV))))
theorem mf_M_term : Mf y_M_term prog_14_method_30_code 1 none 0 := ⟨tw_1689, tw_134, by decide +kernel⟩
noncomputable def D_M_term : Dn := runS [1] F_M_term
theorem ok_M_term : MOK y_M_term prog_14_method_30_code 1 none 4 0 0 D_M_term := MOK.of (by decide) (by decide) (show SO Y_M_term [(0, 1)] [(0, 1)] 0 48 (([], 0), ([], 0)) F_M_term from
  (s_seq (sl1 := [(0, 1)]) (p1 := 13) (s_ast (p1 := 4) (p2 := 8) (p3 := 12) (e_gR (k0 := 37) (p1 := 1) cf_12 (e_aload_n (k0 := 0) d_M_term_0 rfl rfl) (by decide) tw_1397 d_M_term_1) (e_gI (k0 := 33) (p1 := 5) cf_12 (e_aload_n (k0 := 0) d_M_term_4 rfl rfl) (by decide) tw_1393 d_M_term_5) (e_gI (k0 := 39) (p1 := 9) cf_12 (e_aload_n (k0 := 0) d_M_term_8 rfl rfl) (by decide) tw_1399 d_M_term_9) (as_i d_M_term_12)) (s_seq (sl1 := [(0, 1)]) (p1 := 24) (s_if (pt := 20) (pf := 24) (c_if_neF (p1 := 17) (tg := 24) (e_gI (k0 := 13) (p1 := 14) cf_12 (e_aload_n (k0 := 0) d_M_term_13 rfl rfl) (by decide) tw_1373 d_M_term_14) d_M_term_17 rfl) (s_call (p1 := 21) (a_cons (ι := Value.ref) (k0 := 1) (p1 := 21) (fun _ => rfl) (e_aload_n (k0 := 0) d_M_term_20 rfl rfl) a_nil) (k_virt ok_M_expression mf_M_expression ⟨tw_1672, tw_67⟩ rfl tw_1670 d_M_term_21 (by decide) (by decide) (by decide))) s_skip) (s_seq (sl1 := [(0, 1)]) (p1 := 37) (s_ast (p1 := 28) (p2 := 32) (p3 := 36) (e_gR (k0 := 38) (p1 := 25) cf_12 (e_aload_n (k0 := 0) d_M_term_24 rfl rfl) (by decide) tw_1398 d_M_term_25) (e_gI (k0 := 33) (p1 := 29) cf_12 (e_aload_n (k0 := 0) d_M_term_28 rfl rfl) (by decide) tw_1393 d_M_term_29) (e_gI (k0 := 39) (p1 := 33) cf_12 (e_aload_n (k0 := 0) d_M_term_32 rfl rfl) (by decide) tw_1399 d_M_term_33) (as_i d_M_term_36)) (s_seq (sl1 := [(0, 1)]) (p1 := 47) (s_fop (k0 := 33) (p1 := 38) (p2 := 43) cf_12 (e_aload_n (k0 := 0) d_M_term_37 rfl rfl) d_M_term_38 d_M_term_39 (e_iconst d_M_term_42 (by decide)) (op_iadd d_M_term_43) (by decide) rfl tw_1393 tw_1393 rfl d_M_term_44) (s_retV rfl d_M_term_47))))))
/-! BlinkerCrossModel.tellLaw(I)V -/
abbrev y_M_tellLaw : MethodName := ⟨"BlinkerCrossModel", "tellLaw", "(I)V"⟩
abbrev Y_M_tellLaw : Yt := (prog_14_method_29_code, 4, "BlinkerCrossModel", 5, none, "tellLaw")
theorem d_M_tellLaw_0 : decode prog_14_method_29_code 0 = .ok (.aload_n 0, 1) := by decide +kernel
theorem d_M_tellLaw_1 : decode prog_14_method_29_code 1 = .ok (.iconst 5, 1) := by decide +kernel
theorem d_M_tellLaw_2 : decode prog_14_method_29_code 2 = .ok (.invokevirtual 287, 3) := by decide +kernel
theorem d_M_tellLaw_5 : decode prog_14_method_29_code 5 = .ok (.aload_n 0, 1) := by decide +kernel
theorem d_M_tellLaw_6 : decode prog_14_method_29_code 6 = .ok (.getfield 251, 3) := by decide +kernel
theorem d_M_tellLaw_9 : decode prog_14_method_29_code 9 = .ok (.istore_n 2, 1) := by decide +kernel
theorem d_M_tellLaw_10 : decode prog_14_method_29_code 10 = .ok (.iconst 0, 1) := by decide +kernel
theorem d_M_tellLaw_11 : decode prog_14_method_29_code 11 = .ok (.istore_n 3, 1) := by decide +kernel
theorem d_M_tellLaw_12 : decode prog_14_method_29_code 12 = .ok (.aload_n 0, 1) := by decide +kernel
theorem d_M_tellLaw_13 : decode prog_14_method_29_code 13 = .ok (.getfield 212, 3) := by decide +kernel
theorem d_M_tellLaw_16 : decode prog_14_method_29_code 16 = .ok (.ifCond .ne 113, 3) := by decide +kernel
theorem d_M_tellLaw_19 : decode prog_14_method_29_code 19 = .ok (.aload_n 0, 1) := by decide +kernel
theorem d_M_tellLaw_20 : decode prog_14_method_29_code 20 = .ok (.bipush 28, 2) := by decide +kernel
theorem d_M_tellLaw_22 : decode prog_14_method_29_code 22 = .ok (.invokevirtual 230, 3) := by decide +kernel
theorem d_M_tellLaw_25 : decode prog_14_method_29_code 25 = .ok (.ifCond .eq 104, 3) := by decide +kernel
theorem d_M_tellLaw_28 : decode prog_14_method_29_code 28 = .ok (.iload_n 3, 1) := by decide +kernel
theorem d_M_tellLaw_29 : decode prog_14_method_29_code 29 = .ok (.iconst 4, 1) := by decide +kernel
theorem d_M_tellLaw_30 : decode prog_14_method_29_code 30 = .ok (.if_icmp .ne 8, 3) := by decide +kernel
theorem d_M_tellLaw_33 : decode prog_14_method_29_code 33 = .ok (.aload_n 0, 1) := by decide +kernel
theorem d_M_tellLaw_34 : decode prog_14_method_29_code 34 = .ok (.iconst 2, 1) := by decide +kernel
theorem d_M_tellLaw_35 : decode prog_14_method_29_code 35 = .ok (.invokevirtual 227, 3) := by decide +kernel
theorem d_M_tellLaw_38 : decode prog_14_method_29_code 38 = .ok (.aload_n 0, 1) := by decide +kernel
theorem d_M_tellLaw_39 : decode prog_14_method_29_code 39 = .ok (.getfield 212, 3) := by decide +kernel
theorem d_M_tellLaw_42 : decode prog_14_method_29_code 42 = .ok (.ifCond .le 4, 3) := by decide +kernel
theorem d_M_tellLaw_45 : decode prog_14_method_29_code 45 = .ok (.return_, 1) := by decide +kernel
theorem d_M_tellLaw_46 : decode prog_14_method_29_code 46 = .ok (.iinc 3 1, 3) := by decide +kernel
theorem d_M_tellLaw_49 : decode prog_14_method_29_code 49 = .ok (.aload_n 0, 1) := by decide +kernel
theorem d_M_tellLaw_50 : decode prog_14_method_29_code 50 = .ok (.invokevirtual 233, 3) := by decide +kernel
theorem d_M_tellLaw_53 : decode prog_14_method_29_code 53 = .ok (.aload_n 0, 1) := by decide +kernel
theorem d_M_tellLaw_54 : decode prog_14_method_29_code 54 = .ok (.getfield 76, 3) := by decide +kernel
theorem d_M_tellLaw_57 : decode prog_14_method_29_code 57 = .ok (.aload_n 0, 1) := by decide +kernel
theorem d_M_tellLaw_58 : decode prog_14_method_29_code 58 = .ok (.getfield 251, 3) := by decide +kernel
theorem d_M_tellLaw_61 : decode prog_14_method_29_code 61 = .ok (.iconst 1, 1) := by decide +kernel
theorem d_M_tellLaw_62 : decode prog_14_method_29_code 62 = .ok (.bastore, 1) := by decide +kernel
theorem d_M_tellLaw_63 : decode prog_14_method_29_code 63 = .ok (.aload_n 0, 1) := by decide +kernel
theorem d_M_tellLaw_64 : decode prog_14_method_29_code 64 = .ok (.getfield 80, 3) := by decide +kernel
theorem d_M_tellLaw_67 : decode prog_14_method_29_code 67 = .ok (.aload_n 0, 1) := by decide +kernel
theorem d_M_tellLaw_68 : decode prog_14_method_29_code 68 = .ok (.getfield 251, 3) := by decide +kernel
theorem d_M_tellLaw_71 : decode prog_14_method_29_code 71 = .ok (.aload_n 0, 1) := by decide +kernel
theorem d_M_tellLaw_72 : decode prog_14_method_29_code 72 = .ok (.getfield 254, 3) := by decide +kernel
theorem d_M_tellLaw_75 : decode prog_14_method_29_code 75 = .ok (.iastore, 1) := by decide +kernel
theorem d_M_tellLaw_76 : decode prog_14_method_29_code 76 = .ok (.aload_n 0, 1) := by decide +kernel
theorem d_M_tellLaw_77 : decode prog_14_method_29_code 77 = .ok (.invokevirtual 296, 3) := by decide +kernel
theorem d_M_tellLaw_80 : decode prog_14_method_29_code 80 = .ok (.aload_n 0, 1) := by decide +kernel
theorem d_M_tellLaw_81 : decode prog_14_method_29_code 81 = .ok (.bipush 13, 2) := by decide +kernel
theorem d_M_tellLaw_83 : decode prog_14_method_29_code 83 = .ok (.invokevirtual 287, 3) := by decide +kernel
theorem d_M_tellLaw_86 : decode prog_14_method_29_code 86 = .ok (.aload_n 0, 1) := by decide +kernel
theorem d_M_tellLaw_87 : decode prog_14_method_29_code 87 = .ok (.getfield 83, 3) := by decide +kernel
theorem d_M_tellLaw_90 : decode prog_14_method_29_code 90 = .ok (.aload_n 0, 1) := by decide +kernel
theorem d_M_tellLaw_91 : decode prog_14_method_29_code 91 = .ok (.getfield 251, 3) := by decide +kernel
theorem d_M_tellLaw_94 : decode prog_14_method_29_code 94 = .ok (.aload_n 0, 1) := by decide +kernel
theorem d_M_tellLaw_95 : decode prog_14_method_29_code 95 = .ok (.getfield 254, 3) := by decide +kernel
theorem d_M_tellLaw_98 : decode prog_14_method_29_code 98 = .ok (.iastore, 1) := by decide +kernel
theorem d_M_tellLaw_99 : decode prog_14_method_29_code 99 = .ok (.aload_n 0, 1) := by decide +kernel
theorem d_M_tellLaw_100 : decode prog_14_method_29_code 100 = .ok (.getfield 212, 3) := by decide +kernel
theorem d_M_tellLaw_103 : decode prog_14_method_29_code 103 = .ok (.ifCond .ne 7, 3) := by decide +kernel
theorem d_M_tellLaw_106 : decode prog_14_method_29_code 106 = .ok (.aload_n 0, 1) := by decide +kernel
theorem d_M_tellLaw_107 : decode prog_14_method_29_code 107 = .ok (.invokevirtual 296, 3) := by decide +kernel
theorem d_M_tellLaw_110 : decode prog_14_method_29_code 110 = .ok (.aload_n 0, 1) := by decide +kernel
theorem d_M_tellLaw_111 : decode prog_14_method_29_code 111 = .ok (.bipush 29, 2) := by decide +kernel
theorem d_M_tellLaw_113 : decode prog_14_method_29_code 113 = .ok (.invokevirtual 287, 3) := by decide +kernel
theorem d_M_tellLaw_116 : decode prog_14_method_29_code 116 = .ok (.aload_n 0, 1) := by decide +kernel
theorem d_M_tellLaw_117 : decode prog_14_method_29_code 117 = .ok (.invokevirtual 299, 3) := by decide +kernel
theorem d_M_tellLaw_120 : decode prog_14_method_29_code 120 = .ok (.aload_n 0, 1) := by decide +kernel
theorem d_M_tellLaw_121 : decode prog_14_method_29_code 121 = .ok (.bipush 30, 2) := by decide +kernel
theorem d_M_tellLaw_123 : decode prog_14_method_29_code 123 = .ok (.invokevirtual 287, 3) := by decide +kernel
theorem d_M_tellLaw_126 : decode prog_14_method_29_code 126 = .ok (.goto (-114), 3) := by decide +kernel
theorem d_M_tellLaw_129 : decode prog_14_method_29_code 129 = .ok (.aload_n 0, 1) := by decide +kernel
theorem d_M_tellLaw_130 : decode prog_14_method_29_code 130 = .ok (.getfield 76, 3) := by decide +kernel
theorem d_M_tellLaw_133 : decode prog_14_method_29_code 133 = .ok (.aload_n 0, 1) := by decide +kernel
theorem d_M_tellLaw_134 : decode prog_14_method_29_code 134 = .ok (.getfield 251, 3) := by decide +kernel
theorem d_M_tellLaw_137 : decode prog_14_method_29_code 137 = .ok (.iconst 0, 1) := by decide +kernel
theorem d_M_tellLaw_138 : decode prog_14_method_29_code 138 = .ok (.bastore, 1) := by decide +kernel
theorem d_M_tellLaw_139 : decode prog_14_method_29_code 139 = .ok (.aload_n 0, 1) := by decide +kernel
theorem d_M_tellLaw_140 : decode prog_14_method_29_code 140 = .ok (.invokevirtual 299, 3) := by decide +kernel
theorem d_M_tellLaw_143 : decode prog_14_method_29_code 143 = .ok (.aload_n 0, 1) := by decide +kernel
theorem d_M_tellLaw_144 : decode prog_14_method_29_code 144 = .ok (.iconst 4, 1) := by decide +kernel
theorem d_M_tellLaw_145 : decode prog_14_method_29_code 145 = .ok (.invokevirtual 287, 3) := by decide +kernel
theorem d_M_tellLaw_148 : decode prog_14_method_29_code 148 = .ok (.aload_n 0, 1) := by decide +kernel
theorem d_M_tellLaw_149 : decode prog_14_method_29_code 149 = .ok (.getfield 212, 3) := by decide +kernel
theorem d_M_tellLaw_152 : decode prog_14_method_29_code 152 = .ok (.ifCond .le 4, 3) := by decide +kernel
theorem d_M_tellLaw_155 : decode prog_14_method_29_code 155 = .ok (.return_, 1) := by decide +kernel
theorem d_M_tellLaw_156 : decode prog_14_method_29_code 156 = .ok (.aload_n 0, 1) := by decide +kernel
theorem d_M_tellLaw_157 : decode prog_14_method_29_code 157 = .ok (.getfield 70, 3) := by decide +kernel
theorem d_M_tellLaw_160 : decode prog_14_method_29_code 160 = .ok (.iconst 4, 1) := by decide +kernel
theorem d_M_tellLaw_161 : decode prog_14_method_29_code 161 = .ok (.aload_n 0, 1) := by decide +kernel
theorem d_M_tellLaw_162 : decode prog_14_method_29_code 162 = .ok (.getfield 245, 3) := by decide +kernel
theorem d_M_tellLaw_165 : decode prog_14_method_29_code 165 = .ok (.imul, 1) := by decide +kernel
theorem d_M_tellLaw_166 : decode prog_14_method_29_code 166 = .ok (.iload_n 1, 1) := by decide +kernel
theorem d_M_tellLaw_167 : decode prog_14_method_29_code 167 = .ok (.iadd, 1) := by decide +kernel
theorem d_M_tellLaw_168 : decode prog_14_method_29_code 168 = .ok (.iload_n 2, 1) := by decide +kernel
theorem d_M_tellLaw_169 : decode prog_14_method_29_code 169 = .ok (.iastore, 1) := by decide +kernel
theorem d_M_tellLaw_170 : decode prog_14_method_29_code 170 = .ok (.aload_n 0, 1) := by decide +kernel
theorem d_M_tellLaw_171 : decode prog_14_method_29_code 171 = .ok (.getfield 73, 3) := by decide +kernel
theorem d_M_tellLaw_174 : decode prog_14_method_29_code 174 = .ok (.iconst 4, 1) := by decide +kernel
theorem d_M_tellLaw_175 : decode prog_14_method_29_code 175 = .ok (.aload_n 0, 1) := by decide +kernel
theorem d_M_tellLaw_176 : decode prog_14_method_29_code 176 = .ok (.getfield 245, 3) := by decide +kernel
theorem d_M_tellLaw_179 : decode prog_14_method_29_code 179 = .ok (.imul, 1) := by decide +kernel
theorem d_M_tellLaw_180 : decode prog_14_method_29_code 180 = .ok (.iload_n 1, 1) := by decide +kernel
theorem d_M_tellLaw_181 : decode prog_14_method_29_code 181 = .ok (.iadd, 1) := by decide +kernel
theorem d_M_tellLaw_182 : decode prog_14_method_29_code 182 = .ok (.aload_n 0, 1) := by decide +kernel
theorem d_M_tellLaw_183 : decode prog_14_method_29_code 183 = .ok (.getfield 251, 3) := by decide +kernel
theorem d_M_tellLaw_186 : decode prog_14_method_29_code 186 = .ok (.iastore, 1) := by decide +kernel
theorem d_M_tellLaw_187 : decode prog_14_method_29_code 187 = .ok (.return_, 1) := by decide +kernel
noncomputable def Lc_M_tellLaw_1 : Xp Bool := cAnd (o1 (fun x => decide (x = 0)) (gI 12 13 (vR 0))) (o1 (fun x => decide (x ≠ 0)) (cI (mV 12 D_M_is) [asV Value.ref (vR 0), asV Value.int (kI (ii 28))]))
noncomputable def Lb_M_tellLaw_1 : Sm := sSeq (sIf (o2 (fun x y => decide (x = y)) (vI 3) (kI (ii 4))) (sCall (mV 12 D_M_fail) [asV Value.ref (vR 0), asV Value.int (kI (ii 2))]) (sSkip)) (sSeq (sIf (o1 (fun x => decide (x > 0)) (gI 12 13 (vR 0))) (sRetV) (sSkip)) (sSeq (sInc 3 (ii 1)) (sSeq (sCall (mV 12 D_M_goesOn) [asV Value.ref (vR 0)]) (sSeq (sAst 3 (gR 12 34 (vR 0)) (gI 12 33 (vR 0)) (kI (ii 1))) (sSeq (sAst 0 (gR 12 35 (vR 0)) (gI 12 33 (vR 0)) (gI 12 39 (vR 0))) (sSeq (sCall (mV 12 D_M_expression) [asV Value.ref (vR 0)]) (sSeq (sCall (mV 12 D_M_must) [asV Value.ref (vR 0), asV Value.int (kI (ii 13))]) (sSeq (sAst 0 (gR 12 36 (vR 0)) (gI 12 33 (vR 0)) (gI 12 39 (vR 0))) (sSeq (sIf (o1 (fun x => decide (x = 0)) (gI 12 13 (vR 0))) (sCall (mV 12 D_M_expression) [asV Value.ref (vR 0)]) (sSkip)) (sSeq (sCall (mV 12 D_M_must) [asV Value.ref (vR 0), asV Value.int (kI (ii 29))]) (sSeq (sCall (mV 12 D_M_term) [asV Value.ref (vR 0)]) (sCall (mV 12 D_M_must) [asV Value.ref (vR 0), asV Value.int (kI (ii 30))]))))))))))))
noncomputable def Lu_M_tellLaw_1 : Sm := sSkip
noncomputable def F_M_tellLaw : Sm := sSeq (sCall (mV 12 D_M_must) [asV Value.ref (vR 0), asV Value.int (kI (ii 5))]) (sSeq (sDecl (asV Value.int (gI 12 33 (vR 0)))) (sSeq (sDecl (asV Value.int (kI (ii 0)))) (sSeq (sWh (Lc_M_tellLaw_1) (Lb_M_tellLaw_1) Lu_M_tellLaw_1) (sSeq (sAst 3 (gR 12 34 (vR 0)) (gI 12 33 (vR 0)) (kI (ii 0))) (sSeq (sCall (mV 12 D_M_term) [asV Value.ref (vR 0)]) (sSeq (sCall (mV 12 D_M_must) [asV Value.ref (vR 0), asV Value.int (kI (ii 4))]) (sSeq (sIf (o1 (fun x => decide (x > 0)) (gI 12 13 (vR 0))) (sRetV) (sSkip)) (sSeq (sAst 0 (gR 12 31 (vR 0)) (o2 (fun x y => x + y) (o2 (fun x y => x * y) (kI (ii 4)) (gI 12 19 (vR 0))) (vI 1)) (vI 2)) (sSeq (sAst 0 (gR 12 32 (vR 0)) (o2 (fun x y => x + y) (o2 (fun x y => x * y) (kI (ii 4)) (gI 12 19 (vR 0))) (vI 1)) (gI 12 33 (vR 0))) (sRetV))))))))))
theorem mf_M_tellLaw : Mf y_M_tellLaw prog_14_method_29_code 4 none 1 := ⟨tw_1669, tw_134, by decide +kernel⟩
noncomputable def D_M_tellLaw : Dn := runS [1, 1] F_M_tellLaw
theorem ok_M_tellLaw : MOK y_M_tellLaw prog_14_method_29_code 4 none 5 0 0 D_M_tellLaw := MOK.of (by decide) (by decide) (show SO Y_M_tellLaw [(0, 1), (1, 1)] [(0, 1), (1, 1), (2, 1), (3, 1)] 0 188 (([], 0), ([], 0)) F_M_tellLaw from
  (s_seq (sl1 := [(0, 1), (1, 1)]) (p1 := 5) (s_call (p1 := 2) (a_cons (ι := Value.ref) (k0 := 1) (p1 := 1) (fun _ => rfl) (e_aload_n (k0 := 0) d_M_tellLaw_0 rfl rfl) (a_cons (ι := Value.int) (k0 := 1) (p1 := 2) (fun _ => rfl) (e_iconst d_M_tellLaw_1 (by decide)) a_nil)) (k_virt ok_M_must mf_M_must ⟨tw_1644, tw_60⟩ rfl tw_1642 d_M_tellLaw_2 (by decide) (by decide) (by decide))) (s_seq (sl1 := [(0, 1), (1, 1), (2, 1)]) (p1 := 10) (s_decl (p1 := 9) (e_gI (k0 := 33) (p1 := 6) cf_12 (e_aload_n (k0 := 0) d_M_tellLaw_5 rfl rfl) (by decide) tw_1393 d_M_tellLaw_6) (t_istore_n d_M_tellLaw_9 rfl (by decide)) rfl) (s_seq (sl1 := [(0, 1), (1, 1), (2, 1), (3, 1)]) (p1 := 12) (s_decl (p1 := 11) (e_iconst d_M_tellLaw_10 (by decide)) (t_istore_n d_M_tellLaw_11 rfl (by decide)) rfl) (s_seq (sl1 := [(0, 1), (1, 1), (2, 1), (3, 1)]) (p1 := 129) (s_for (pt := 28) (pu := 12) (pf := 129) (pg := 0) (c_and (p1 := 19) (c_if_neF (p1 := 16) (tg := 129) (e_gI (k0 := 13) (p1 := 13) cf_12 (e_aload_n (k0 := 0) d_M_tellLaw_12 rfl rfl) (by decide) tw_1373 d_M_tellLaw_13) d_M_tellLaw_16 rfl) (c_if_eqF (p1 := 25) (tg := 129) (e_cI (p1 := 22) (a_cons (ι := Value.ref) (k0 := 1) (p1 := 20) (fun _ => rfl) (e_aload_n (k0 := 0) d_M_tellLaw_19 rfl rfl) (a_cons (ι := Value.int) (k0 := 1) (p1 := 22) (fun _ => rfl) (e_bipush d_M_tellLaw_20 (by decide)) a_nil)) (k_virt ok_M_is mf_M_is ⟨tw_1620, tw_54⟩ rfl tw_1618 d_M_tellLaw_22 (by decide) (by decide) (by decide))) d_M_tellLaw_25 rfl)) (s_seq (sl1 := [(0, 1), (1, 1), (2, 1), (3, 1)]) (p1 := 38) (s_if (pt := 33) (pf := 38) (c_icmp_neF (p1 := 29) (p2 := 30) (tg := 38) (e_iload_n (k0 := 3) d_M_tellLaw_28 rfl rfl) (e_iconst d_M_tellLaw_29 (by decide)) d_M_tellLaw_30 rfl) (s_call (p1 := 35) (a_cons (ι := Value.ref) (k0 := 1) (p1 := 34) (fun _ => rfl) (e_aload_n (k0 := 0) d_M_tellLaw_33 rfl rfl) (a_cons (ι := Value.int) (k0 := 1) (p1 := 35) (fun _ => rfl) (e_iconst d_M_tellLaw_34 (by decide)) a_nil)) (k_virt ok_M_fail mf_M_fail ⟨tw_1632, tw_57⟩ rfl tw_1630 d_M_tellLaw_35 (by decide) (by decide) (by decide))) s_skip) (s_seq (sl1 := [(0, 1), (1, 1), (2, 1), (3, 1)]) (p1 := 46) (s_if (pt := 45) (pf := 46) (c_if_leF (p1 := 42) (tg := 46) (e_gI (k0 := 13) (p1 := 39) cf_12 (e_aload_n (k0 := 0) d_M_tellLaw_38 rfl rfl) (by decide) tw_1373 d_M_tellLaw_39) d_M_tellLaw_42 rfl) (s_retV rfl d_M_tellLaw_45) s_skip) (s_seq (sl1 := [(0, 1), (1, 1), (2, 1), (3, 1)]) (p1 := 49) (s_inc (k0 := 3) d_M_tellLaw_46 rfl rfl (Nat.le_of_ble_eq_true rfl) rfl) (s_seq (sl1 := [(0, 1), (1, 1), (2, 1), (3, 1)]) (p1 := 53) (s_call (p1 := 50) (a_cons (ι := Value.ref) (k0 := 1) (p1 := 50) (fun _ => rfl) (e_aload_n (k0 := 0) d_M_tellLaw_49 rfl rfl) a_nil) (k_virt ok_M_goesOn mf_M_goesOn ⟨tw_1636, tw_58⟩ rfl tw_1634 d_M_tellLaw_50 (by decide) (by decide) (by decide))) (s_seq (sl1 := [(0, 1), (1, 1), (2, 1), (3, 1)]) (p1 := 63) (s_ast (p1 := 57) (p2 := 61) (p3 := 62) (e_gR (k0 := 34) (p1 := 54) cf_12 (e_aload_n (k0 := 0) d_M_tellLaw_53 rfl rfl) (by decide) tw_1394 d_M_tellLaw_54) (e_gI (k0 := 33) (p1 := 58) cf_12 (e_aload_n (k0 := 0) d_M_tellLaw_57 rfl rfl) (by decide) tw_1393 d_M_tellLaw_58) (e_iconst d_M_tellLaw_61 (by decide)) (as_z d_M_tellLaw_62)) (s_seq (sl1 := [(0, 1), (1, 1), (2, 1), (3, 1)]) (p1 := 76) (s_ast (p1 := 67) (p2 := 71) (p3 := 75) (e_gR (k0 := 35) (p1 := 64) cf_12 (e_aload_n (k0 := 0) d_M_tellLaw_63 rfl rfl) (by decide) tw_1395 d_M_tellLaw_64) (e_gI (k0 := 33) (p1 := 68) cf_12 (e_aload_n (k0 := 0) d_M_tellLaw_67 rfl rfl) (by decide) tw_1393 d_M_tellLaw_68) (e_gI (k0 := 39) (p1 := 72) cf_12 (e_aload_n (k0 := 0) d_M_tellLaw_71 rfl rfl) (by decide) tw_1399 d_M_tellLaw_72) (as_i d_M_tellLaw_75)) (s_seq (sl1 := [(0, 1), (1, 1), (2, 1), (3, 1)]) (p1 := 80) (s_call (p1 := 77) (a_cons (ι := Value.ref) (k0 := 1) (p1 := 77) (fun _ => rfl) (e_aload_n (k0 := 0) d_M_tellLaw_76 rfl rfl) a_nil) (k_virt ok_M_expression mf_M_expression ⟨tw_1672, tw_67⟩ rfl tw_1670 d_M_tellLaw_77 (by decide) (by decide) (by decide))) (s_seq (sl1 := [(0, 1), (1, 1), (2, 1), (3, 1)]) (p1 := 86) (s_call (p1 := 83) (a_cons (ι := Value.ref) (k0 := 1) (p1 := 81) (fun _ => rfl) (e_aload_n (k0 := 0) d_M_tellLaw_80 rfl rfl) (a_cons (ι := Value.int) (k0 := 1) (p1 := 83) (fun _ => rfl) (e_bipush d_M_tellLaw_81 (by decide)) a_nil)) (k_virt ok_M_must mf_M_must ⟨tw_1644, tw_60⟩ rfl tw_1642 d_M_tellLaw_83 (by decide) (by decide) (by decide))) (s_seq (sl1 := [(0, 1), (1, 1), (2, 1), (3, 1)]) (p1 := 99) (s_ast (p1 := 90) (p2 := 94) (p3 := 98) (e_gR (k0 := 36) (p1 := 87) cf_12 (e_aload_n (k0 := 0) d_M_tellLaw_86 rfl rfl) (by decide) tw_1396 d_M_tellLaw_87) (e_gI (k0 := 33) (p1 := 91) cf_12 (e_aload_n (k0 := 0) d_M_tellLaw_90 rfl rfl) (by decide) tw_1393 d_M_tellLaw_91) (e_gI (k0 := 39) (p1 := 95) cf_12 (e_aload_n (k0 := 0) d_M_tellLaw_94 rfl rfl) (by decide) tw_1399 d_M_tellLaw_95) (as_i d_M_tellLaw_98)) (s_seq (sl1 := [(0, 1), (1, 1), (2, 1), (3, 1)]) (p1 := 110) (s_if (pt := 106) (pf := 110) (c_if_neF (p1 := 103) (tg := 110) (e_gI (k0 := 13) (p1 := 100) cf_12 (e_aload_n (k0 := 0) d_M_tellLaw_99 rfl rfl) (by decide) tw_1373 d_M_tellLaw_100) d_M_tellLaw_103 rfl) (s_call (p1 := 107) (a_cons (ι := Value.ref) (k0 := 1) (p1 := 107) (fun _ => rfl) (e_aload_n (k0 := 0) d_M_tellLaw_106 rfl rfl) a_nil) (k_virt ok_M_expression mf_M_expression ⟨tw_1672, tw_67⟩ rfl tw_1670 d_M_tellLaw_107 (by decide) (by decide) (by decide))) s_skip) (s_seq (sl1 := [(0, 1), (1, 1), (2, 1), (3, 1)]) (p1 := 116) (s_call (p1 := 113) (a_cons (ι := Value.ref) (k0 := 1) (p1 := 111) (fun _ => rfl) (e_aload_n (k0 := 0) d_M_tellLaw_110 rfl rfl) (a_cons (ι := Value.int) (k0 := 1) (p1 := 113) (fun _ => rfl) (e_bipush d_M_tellLaw_111 (by decide)) a_nil)) (k_virt ok_M_must mf_M_must ⟨tw_1644, tw_60⟩ rfl tw_1642 d_M_tellLaw_113 (by decide) (by decide) (by decide))) (s_seq (sl1 := [(0, 1), (1, 1), (2, 1), (3, 1)]) (p1 := 120) (s_call (p1 := 117) (a_cons (ι := Value.ref) (k0 := 1) (p1 := 117) (fun _ => rfl) (e_aload_n (k0 := 0) d_M_tellLaw_116 rfl rfl) a_nil) (k_virt ok_M_term mf_M_term ⟨tw_1688, tw_71⟩ rfl tw_1686 d_M_tellLaw_117 (by decide) (by decide) (by decide))) (s_goto (p1 := 126) (s_call (p1 := 123) (a_cons (ι := Value.ref) (k0 := 1) (p1 := 121) (fun _ => rfl) (e_aload_n (k0 := 0) d_M_tellLaw_120 rfl rfl) (a_cons (ι := Value.int) (k0 := 1) (p1 := 123) (fun _ => rfl) (e_bipush d_M_tellLaw_121 (by decide)) a_nil)) (k_virt ok_M_must mf_M_must ⟨tw_1644, tw_60⟩ rfl tw_1642 d_M_tellLaw_123 (by decide) (by decide) (by decide))) d_M_tellLaw_126 rfl))))))))))))) s_skip) (s_seq (sl1 := [(0, 1), (1, 1), (2, 1), (3, 1)]) (p1 := 139) (s_ast (p1 := 133) (p2 := 137) (p3 := 138) (e_gR (k0 := 34) (p1 := 130) cf_12 (e_aload_n (k0 := 0) d_M_tellLaw_129 rfl rfl) (by decide) tw_1394 d_M_tellLaw_130) (e_gI (k0 := 33) (p1 := 134) cf_12 (e_aload_n (k0 := 0) d_M_tellLaw_133 rfl rfl) (by decide) tw_1393 d_M_tellLaw_134) (e_iconst d_M_tellLaw_137 (by decide)) (as_z d_M_tellLaw_138)) (s_seq (sl1 := [(0, 1), (1, 1), (2, 1), (3, 1)]) (p1 := 143) (s_call (p1 := 140) (a_cons (ι := Value.ref) (k0 := 1) (p1 := 140) (fun _ => rfl) (e_aload_n (k0 := 0) d_M_tellLaw_139 rfl rfl) a_nil) (k_virt ok_M_term mf_M_term ⟨tw_1688, tw_71⟩ rfl tw_1686 d_M_tellLaw_140 (by decide) (by decide) (by decide))) (s_seq (sl1 := [(0, 1), (1, 1), (2, 1), (3, 1)]) (p1 := 148) (s_call (p1 := 145) (a_cons (ι := Value.ref) (k0 := 1) (p1 := 144) (fun _ => rfl) (e_aload_n (k0 := 0) d_M_tellLaw_143 rfl rfl) (a_cons (ι := Value.int) (k0 := 1) (p1 := 145) (fun _ => rfl) (e_iconst d_M_tellLaw_144 (by decide)) a_nil)) (k_virt ok_M_must mf_M_must ⟨tw_1644, tw_60⟩ rfl tw_1642 d_M_tellLaw_145 (by decide) (by decide) (by decide))) (s_seq (sl1 := [(0, 1), (1, 1), (2, 1), (3, 1)]) (p1 := 156) (s_if (pt := 155) (pf := 156) (c_if_leF (p1 := 152) (tg := 156) (e_gI (k0 := 13) (p1 := 149) cf_12 (e_aload_n (k0 := 0) d_M_tellLaw_148 rfl rfl) (by decide) tw_1373 d_M_tellLaw_149) d_M_tellLaw_152 rfl) (s_retV rfl d_M_tellLaw_155) s_skip) (s_seq (sl1 := [(0, 1), (1, 1), (2, 1), (3, 1)]) (p1 := 170) (s_ast (p1 := 160) (p2 := 168) (p3 := 169) (e_gR (k0 := 31) (p1 := 157) cf_12 (e_aload_n (k0 := 0) d_M_tellLaw_156 rfl rfl) (by decide) tw_1391 d_M_tellLaw_157) (e_iadd (p1 := 166) (p2 := 167) (e_imul (p1 := 161) (p2 := 165) (e_iconst d_M_tellLaw_160 (by decide)) (e_gI (k0 := 19) (p1 := 162) cf_12 (e_aload_n (k0 := 0) d_M_tellLaw_161 rfl rfl) (by decide) tw_1379 d_M_tellLaw_162) d_M_tellLaw_165) (e_iload_n (k0 := 1) d_M_tellLaw_166 rfl rfl) d_M_tellLaw_167) (e_iload_n (k0 := 2) d_M_tellLaw_168 rfl rfl) (as_i d_M_tellLaw_169)) (s_seq (sl1 := [(0, 1), (1, 1), (2, 1), (3, 1)]) (p1 := 187) (s_ast (p1 := 174) (p2 := 182) (p3 := 186) (e_gR (k0 := 32) (p1 := 171) cf_12 (e_aload_n (k0 := 0) d_M_tellLaw_170 rfl rfl) (by decide) tw_1392 d_M_tellLaw_171) (e_iadd (p1 := 180) (p2 := 181) (e_imul (p1 := 175) (p2 := 179) (e_iconst d_M_tellLaw_174 (by decide)) (e_gI (k0 := 19) (p1 := 176) cf_12 (e_aload_n (k0 := 0) d_M_tellLaw_175 rfl rfl) (by decide) tw_1379 d_M_tellLaw_176) d_M_tellLaw_179) (e_iload_n (k0 := 1) d_M_tellLaw_180 rfl rfl) d_M_tellLaw_181) (e_gI (k0 := 33) (p1 := 183) cf_12 (e_aload_n (k0 := 0) d_M_tellLaw_182 rfl rfl) (by decide) tw_1393 d_M_tellLaw_183) (as_i d_M_tellLaw_186)) (s_retV rfl d_M_tellLaw_187))))))))))))
/-! BlinkerCrossModel.tellOne()V -/
abbrev y_M_tellOne : MethodName := ⟨"BlinkerCrossModel", "tellOne", "()V"⟩
abbrev Y_M_tellOne : Yt := (prog_14_method_23_code, 3, "BlinkerCrossModel", 6, none, "tellOne")
theorem d_M_tellOne_0 : decode prog_14_method_23_code 0 = .ok (.aload_n 0, 1) := by decide +kernel
theorem d_M_tellOne_1 : decode prog_14_method_23_code 1 = .ok (.getfield 20, 3) := by decide +kernel
theorem d_M_tellOne_4 : decode prog_14_method_23_code 4 = .ok (.aload_n 0, 1) := by decide +kernel
theorem d_M_tellOne_5 : decode prog_14_method_23_code 5 = .ok (.getfield 215, 3) := by decide +kernel
theorem d_M_tellOne_8 : decode prog_14_method_23_code 8 = .ok (.iaload, 1) := by decide +kernel
theorem d_M_tellOne_9 : decode prog_14_method_23_code 9 = .ok (.tableswitch 307 20 27 #[47, 141, 249, 307, 307, 307, 307, 278], 47) := by decide +kernel
theorem d_M_tellOne_56 : decode prog_14_method_23_code 56 = .ok (.aload_n 0, 1) := by decide +kernel
theorem d_M_tellOne_57 : decode prog_14_method_23_code 57 = .ok (.aload_n 0, 1) := by decide +kernel
theorem d_M_tellOne_58 : decode prog_14_method_23_code 58 = .ok (.getfield 46, 3) := by decide +kernel
theorem d_M_tellOne_61 : decode prog_14_method_23_code 61 = .ok (.aload_n 0, 1) := by decide +kernel
theorem d_M_tellOne_62 : decode prog_14_method_23_code 62 = .ok (.getfield 245, 3) := by decide +kernel
theorem d_M_tellOne_65 : decode prog_14_method_23_code 65 = .ok (.iaload, 1) := by decide +kernel
theorem d_M_tellOne_66 : decode prog_14_method_23_code 66 = .ok (.bipush 6, 2) := by decide +kernel
theorem d_M_tellOne_68 : decode prog_14_method_23_code 68 = .ok (.invokevirtual 266, 3) := by decide +kernel
theorem d_M_tellOne_71 : decode prog_14_method_23_code 71 = .ok (.aload_n 0, 1) := by decide +kernel
theorem d_M_tellOne_72 : decode prog_14_method_23_code 72 = .ok (.getfield 212, 3) := by decide +kernel
theorem d_M_tellOne_75 : decode prog_14_method_23_code 75 = .ok (.ifCond .le 4, 3) := by decide +kernel
theorem d_M_tellOne_78 : decode prog_14_method_23_code 78 = .ok (.return_, 1) := by decide +kernel
theorem d_M_tellOne_79 : decode prog_14_method_23_code 79 = .ok (.aload_n 0, 1) := by decide +kernel
theorem d_M_tellOne_80 : decode prog_14_method_23_code 80 = .ok (.invokevirtual 270, 3) := by decide +kernel
theorem d_M_tellOne_83 : decode prog_14_method_23_code 83 = .ok (.istore_n 1, 1) := by decide +kernel
theorem d_M_tellOne_84 : decode prog_14_method_23_code 84 = .ok (.aload_n 0, 1) := by decide +kernel
theorem d_M_tellOne_85 : decode prog_14_method_23_code 85 = .ok (.getfield 49, 3) := by decide +kernel
theorem d_M_tellOne_88 : decode prog_14_method_23_code 88 = .ok (.bipush 6, 2) := by decide +kernel
theorem d_M_tellOne_90 : decode prog_14_method_23_code 90 = .ok (.aload_n 0, 1) := by decide +kernel
theorem d_M_tellOne_91 : decode prog_14_method_23_code 91 = .ok (.getfield 245, 3) := by decide +kernel
theorem d_M_tellOne_94 : decode prog_14_method_23_code 94 = .ok (.imul, 1) := by decide +kernel
theorem d_M_tellOne_95 : decode prog_14_method_23_code 95 = .ok (.aload_n 0, 1) := by decide +kernel
theorem d_M_tellOne_96 : decode prog_14_method_23_code 96 = .ok (.getfield 46, 3) := by decide +kernel
theorem d_M_tellOne_99 : decode prog_14_method_23_code 99 = .ok (.aload_n 0, 1) := by decide +kernel
theorem d_M_tellOne_100 : decode prog_14_method_23_code 100 = .ok (.getfield 245, 3) := by decide +kernel
theorem d_M_tellOne_103 : decode prog_14_method_23_code 103 = .ok (.iaload, 1) := by decide +kernel
theorem d_M_tellOne_104 : decode prog_14_method_23_code 104 = .ok (.iadd, 1) := by decide +kernel
theorem d_M_tellOne_105 : decode prog_14_method_23_code 105 = .ok (.aload_n 0, 1) := by decide +kernel
theorem d_M_tellOne_106 : decode prog_14_method_23_code 106 = .ok (.iconst 1, 1) := by decide +kernel
theorem d_M_tellOne_107 : decode prog_14_method_23_code 107 = .ok (.bipush 9, 2) := by decide +kernel
theorem d_M_tellOne_109 : decode prog_14_method_23_code 109 = .ok (.invokevirtual 274, 3) := by decide +kernel
theorem d_M_tellOne_112 : decode prog_14_method_23_code 112 = .ok (.iastore, 1) := by decide +kernel
theorem d_M_tellOne_113 : decode prog_14_method_23_code 113 = .ok (.aload_n 0, 1) := by decide +kernel
theorem d_M_tellOne_114 : decode prog_14_method_23_code 114 = .ok (.iload_n 1, 1) := by decide +kernel
theorem d_M_tellOne_115 : decode prog_14_method_23_code 115 = .ok (.aload_n 0, 1) := by decide +kernel
theorem d_M_tellOne_116 : decode prog_14_method_23_code 116 = .ok (.getfield 46, 3) := by decide +kernel
theorem d_M_tellOne_119 : decode prog_14_method_23_code 119 = .ok (.aload_n 0, 1) := by decide +kernel
theorem d_M_tellOne_120 : decode prog_14_method_23_code 120 = .ok (.getfield 245, 3) := by decide +kernel
theorem d_M_tellOne_123 : decode prog_14_method_23_code 123 = .ok (.iaload, 1) := by decide +kernel
theorem d_M_tellOne_124 : decode prog_14_method_23_code 124 = .ok (.invokevirtual 278, 3) := by decide +kernel
theorem d_M_tellOne_127 : decode prog_14_method_23_code 127 = .ok (.aload_n 0, 1) := by decide +kernel
theorem d_M_tellOne_128 : decode prog_14_method_23_code 128 = .ok (.getfield 212, 3) := by decide +kernel
theorem d_M_tellOne_131 : decode prog_14_method_23_code 131 = .ok (.ifCond .ne 238, 3) := by decide +kernel
theorem d_M_tellOne_134 : decode prog_14_method_23_code 134 = .ok (.aload_n 0, 1) := by decide +kernel
theorem d_M_tellOne_135 : decode prog_14_method_23_code 135 = .ok (.getfield 46, 3) := by decide +kernel
theorem d_M_tellOne_138 : decode prog_14_method_23_code 138 = .ok (.aload_n 0, 1) := by decide +kernel
theorem d_M_tellOne_139 : decode prog_14_method_23_code 139 = .ok (.getfield 245, 3) := by decide +kernel
theorem d_M_tellOne_142 : decode prog_14_method_23_code 142 = .ok (.dup2, 1) := by decide +kernel
theorem d_M_tellOne_143 : decode prog_14_method_23_code 143 = .ok (.iaload, 1) := by decide +kernel
theorem d_M_tellOne_144 : decode prog_14_method_23_code 144 = .ok (.iconst 1, 1) := by decide +kernel
theorem d_M_tellOne_145 : decode prog_14_method_23_code 145 = .ok (.iadd, 1) := by decide +kernel
theorem d_M_tellOne_146 : decode prog_14_method_23_code 146 = .ok (.iastore, 1) := by decide +kernel
theorem d_M_tellOne_147 : decode prog_14_method_23_code 147 = .ok (.goto 222, 3) := by decide +kernel
theorem d_M_tellOne_150 : decode prog_14_method_23_code 150 = .ok (.aload_n 0, 1) := by decide +kernel
theorem d_M_tellOne_151 : decode prog_14_method_23_code 151 = .ok (.aload_n 0, 1) := by decide +kernel
theorem d_M_tellOne_152 : decode prog_14_method_23_code 152 = .ok (.getfield 52, 3) := by decide +kernel
theorem d_M_tellOne_155 : decode prog_14_method_23_code 155 = .ok (.aload_n 0, 1) := by decide +kernel
theorem d_M_tellOne_156 : decode prog_14_method_23_code 156 = .ok (.getfield 245, 3) := by decide +kernel
theorem d_M_tellOne_159 : decode prog_14_method_23_code 159 = .ok (.iaload, 1) := by decide +kernel
theorem d_M_tellOne_160 : decode prog_14_method_23_code 160 = .ok (.iconst 5, 1) := by decide +kernel
theorem d_M_tellOne_161 : decode prog_14_method_23_code 161 = .ok (.invokevirtual 266, 3) := by decide +kernel
theorem d_M_tellOne_164 : decode prog_14_method_23_code 164 = .ok (.aload_n 0, 1) := by decide +kernel
theorem d_M_tellOne_165 : decode prog_14_method_23_code 165 = .ok (.getfield 212, 3) := by decide +kernel
theorem d_M_tellOne_168 : decode prog_14_method_23_code 168 = .ok (.ifCond .le 4, 3) := by decide +kernel
theorem d_M_tellOne_171 : decode prog_14_method_23_code 171 = .ok (.return_, 1) := by decide +kernel
theorem d_M_tellOne_172 : decode prog_14_method_23_code 172 = .ok (.iconst 5, 1) := by decide +kernel
theorem d_M_tellOne_173 : decode prog_14_method_23_code 173 = .ok (.aload_n 0, 1) := by decide +kernel
theorem d_M_tellOne_174 : decode prog_14_method_23_code 174 = .ok (.getfield 245, 3) := by decide +kernel
theorem d_M_tellOne_177 : decode prog_14_method_23_code 177 = .ok (.imul, 1) := by decide +kernel
theorem d_M_tellOne_178 : decode prog_14_method_23_code 178 = .ok (.aload_n 0, 1) := by decide +kernel
theorem d_M_tellOne_179 : decode prog_14_method_23_code 179 = .ok (.getfield 52, 3) := by decide +kernel
theorem d_M_tellOne_182 : decode prog_14_method_23_code 182 = .ok (.aload_n 0, 1) := by decide +kernel
theorem d_M_tellOne_183 : decode prog_14_method_23_code 183 = .ok (.getfield 245, 3) := by decide +kernel
theorem d_M_tellOne_186 : decode prog_14_method_23_code 186 = .ok (.iaload, 1) := by decide +kernel
theorem d_M_tellOne_187 : decode prog_14_method_23_code 187 = .ok (.iadd, 1) := by decide +kernel
theorem d_M_tellOne_188 : decode prog_14_method_23_code 188 = .ok (.istore_n 1, 1) := by decide +kernel
theorem d_M_tellOne_189 : decode prog_14_method_23_code 189 = .ok (.aload_n 0, 1) := by decide +kernel
theorem d_M_tellOne_190 : decode prog_14_method_23_code 190 = .ok (.invokevirtual 270, 3) := by decide +kernel
theorem d_M_tellOne_193 : decode prog_14_method_23_code 193 = .ok (.istore_n 2, 1) := by decide +kernel
theorem d_M_tellOne_194 : decode prog_14_method_23_code 194 = .ok (.aload_n 0, 1) := by decide +kernel
theorem d_M_tellOne_195 : decode prog_14_method_23_code 195 = .ok (.getfield 55, 3) := by decide +kernel
theorem d_M_tellOne_198 : decode prog_14_method_23_code 198 = .ok (.iload_n 1, 1) := by decide +kernel
theorem d_M_tellOne_199 : decode prog_14_method_23_code 199 = .ok (.aload_n 0, 1) := by decide +kernel
theorem d_M_tellOne_200 : decode prog_14_method_23_code 200 = .ok (.iconst 0, 1) := by decide +kernel
theorem d_M_tellOne_201 : decode prog_14_method_23_code 201 = .ok (.invokevirtual 281, 3) := by decide +kernel
theorem d_M_tellOne_204 : decode prog_14_method_23_code 204 = .ok (.iastore, 1) := by decide +kernel
theorem d_M_tellOne_205 : decode prog_14_method_23_code 205 = .ok (.aload_n 0, 1) := by decide +kernel
theorem d_M_tellOne_206 : decode prog_14_method_23_code 206 = .ok (.getfield 58, 3) := by decide +kernel
theorem d_M_tellOne_209 : decode prog_14_method_23_code 209 = .ok (.iload_n 1, 1) := by decide +kernel
theorem d_M_tellOne_210 : decode prog_14_method_23_code 210 = .ok (.aload_n 0, 1) := by decide +kernel
theorem d_M_tellOne_211 : decode prog_14_method_23_code 211 = .ok (.iconst 1, 1) := by decide +kernel
theorem d_M_tellOne_212 : decode prog_14_method_23_code 212 = .ok (.bipush 6, 2) := by decide +kernel
theorem d_M_tellOne_214 : decode prog_14_method_23_code 214 = .ok (.invokevirtual 274, 3) := by decide +kernel
theorem d_M_tellOne_217 : decode prog_14_method_23_code 217 = .ok (.iastore, 1) := by decide +kernel
theorem d_M_tellOne_218 : decode prog_14_method_23_code 218 = .ok (.aload_n 0, 1) := by decide +kernel
theorem d_M_tellOne_219 : decode prog_14_method_23_code 219 = .ok (.iload_n 2, 1) := by decide +kernel
theorem d_M_tellOne_220 : decode prog_14_method_23_code 220 = .ok (.bipush 10, 2) := by decide +kernel
theorem d_M_tellOne_222 : decode prog_14_method_23_code 222 = .ok (.aload_n 0, 1) := by decide +kernel
theorem d_M_tellOne_223 : decode prog_14_method_23_code 223 = .ok (.getfield 52, 3) := by decide +kernel
theorem d_M_tellOne_226 : decode prog_14_method_23_code 226 = .ok (.aload_n 0, 1) := by decide +kernel
theorem d_M_tellOne_227 : decode prog_14_method_23_code 227 = .ok (.getfield 245, 3) := by decide +kernel
theorem d_M_tellOne_230 : decode prog_14_method_23_code 230 = .ok (.iaload, 1) := by decide +kernel
theorem d_M_tellOne_231 : decode prog_14_method_23_code 231 = .ok (.iadd, 1) := by decide +kernel
theorem d_M_tellOne_232 : decode prog_14_method_23_code 232 = .ok (.invokevirtual 278, 3) := by decide +kernel
theorem d_M_tellOne_235 : decode prog_14_method_23_code 235 = .ok (.aload_n 0, 1) := by decide +kernel
theorem d_M_tellOne_236 : decode prog_14_method_23_code 236 = .ok (.getfield 212, 3) := by decide +kernel
theorem d_M_tellOne_239 : decode prog_14_method_23_code 239 = .ok (.ifCond .ne 130, 3) := by decide +kernel
theorem d_M_tellOne_242 : decode prog_14_method_23_code 242 = .ok (.aload_n 0, 1) := by decide +kernel
theorem d_M_tellOne_243 : decode prog_14_method_23_code 243 = .ok (.getfield 52, 3) := by decide +kernel
theorem d_M_tellOne_246 : decode prog_14_method_23_code 246 = .ok (.aload_n 0, 1) := by decide +kernel
theorem d_M_tellOne_247 : decode prog_14_method_23_code 247 = .ok (.getfield 245, 3) := by decide +kernel
theorem d_M_tellOne_250 : decode prog_14_method_23_code 250 = .ok (.dup2, 1) := by decide +kernel
theorem d_M_tellOne_251 : decode prog_14_method_23_code 251 = .ok (.iaload, 1) := by decide +kernel
theorem d_M_tellOne_252 : decode prog_14_method_23_code 252 = .ok (.iconst 1, 1) := by decide +kernel
theorem d_M_tellOne_253 : decode prog_14_method_23_code 253 = .ok (.iadd, 1) := by decide +kernel
theorem d_M_tellOne_254 : decode prog_14_method_23_code 254 = .ok (.iastore, 1) := by decide +kernel
theorem d_M_tellOne_255 : decode prog_14_method_23_code 255 = .ok (.goto 114, 3) := by decide +kernel
theorem d_M_tellOne_258 : decode prog_14_method_23_code 258 = .ok (.aload_n 0, 1) := by decide +kernel
theorem d_M_tellOne_259 : decode prog_14_method_23_code 259 = .ok (.aload_n 0, 1) := by decide +kernel
theorem d_M_tellOne_260 : decode prog_14_method_23_code 260 = .ok (.getfield 61, 3) := by decide +kernel
theorem d_M_tellOne_263 : decode prog_14_method_23_code 263 = .ok (.aload_n 0, 1) := by decide +kernel
theorem d_M_tellOne_264 : decode prog_14_method_23_code 264 = .ok (.getfield 245, 3) := by decide +kernel
theorem d_M_tellOne_267 : decode prog_14_method_23_code 267 = .ok (.iaload, 1) := by decide +kernel
theorem d_M_tellOne_268 : decode prog_14_method_23_code 268 = .ok (.bipush 30, 2) := by decide +kernel
theorem d_M_tellOne_270 : decode prog_14_method_23_code 270 = .ok (.invokevirtual 266, 3) := by decide +kernel
theorem d_M_tellOne_273 : decode prog_14_method_23_code 273 = .ok (.aload_n 0, 1) := by decide +kernel
theorem d_M_tellOne_274 : decode prog_14_method_23_code 274 = .ok (.getfield 212, 3) := by decide +kernel
theorem d_M_tellOne_277 : decode prog_14_method_23_code 277 = .ok (.ifCond .ne 92, 3) := by decide +kernel
theorem d_M_tellOne_280 : decode prog_14_method_23_code 280 = .ok (.aload_n 0, 1) := by decide +kernel
theorem d_M_tellOne_281 : decode prog_14_method_23_code 281 = .ok (.invokevirtual 284, 3) := by decide +kernel
theorem d_M_tellOne_284 : decode prog_14_method_23_code 284 = .ok (.goto 85, 3) := by decide +kernel
theorem d_M_tellOne_287 : decode prog_14_method_23_code 287 = .ok (.aload_n 0, 1) := by decide +kernel
theorem d_M_tellOne_288 : decode prog_14_method_23_code 288 = .ok (.invokevirtual 233, 3) := by decide +kernel
theorem d_M_tellOne_291 : decode prog_14_method_23_code 291 = .ok (.aload_n 0, 1) := by decide +kernel
theorem d_M_tellOne_292 : decode prog_14_method_23_code 292 = .ok (.getfield 67, 3) := by decide +kernel
theorem d_M_tellOne_295 : decode prog_14_method_23_code 295 = .ok (.aload_n 0, 1) := by decide +kernel
theorem d_M_tellOne_296 : decode prog_14_method_23_code 296 = .ok (.getfield 245, 3) := by decide +kernel
theorem d_M_tellOne_299 : decode prog_14_method_23_code 299 = .ok (.aload_n 0, 1) := by decide +kernel
theorem d_M_tellOne_300 : decode prog_14_method_23_code 300 = .ok (.iconst 0, 1) := by decide +kernel
theorem d_M_tellOne_301 : decode prog_14_method_23_code 301 = .ok (.sipush 9999, 3) := by decide +kernel
theorem d_M_tellOne_304 : decode prog_14_method_23_code 304 = .ok (.invokevirtual 274, 3) := by decide +kernel
theorem d_M_tellOne_307 : decode prog_14_method_23_code 307 = .ok (.iastore, 1) := by decide +kernel
theorem d_M_tellOne_308 : decode prog_14_method_23_code 308 = .ok (.aload_n 0, 1) := by decide +kernel
theorem d_M_tellOne_309 : decode prog_14_method_23_code 309 = .ok (.iconst 4, 1) := by decide +kernel
theorem d_M_tellOne_310 : decode prog_14_method_23_code 310 = .ok (.invokevirtual 287, 3) := by decide +kernel
theorem d_M_tellOne_313 : decode prog_14_method_23_code 313 = .ok (.goto 56, 3) := by decide +kernel
theorem d_M_tellOne_316 : decode prog_14_method_23_code 316 = .ok (.aload_n 0, 1) := by decide +kernel
theorem d_M_tellOne_317 : decode prog_14_method_23_code 317 = .ok (.getfield 20, 3) := by decide +kernel
theorem d_M_tellOne_320 : decode prog_14_method_23_code 320 = .ok (.aload_n 0, 1) := by decide +kernel
theorem d_M_tellOne_321 : decode prog_14_method_23_code 321 = .ok (.getfield 215, 3) := by decide +kernel
theorem d_M_tellOne_324 : decode prog_14_method_23_code 324 = .ok (.iaload, 1) := by decide +kernel
theorem d_M_tellOne_325 : decode prog_14_method_23_code 325 = .ok (.bipush 23, 2) := by decide +kernel
theorem d_M_tellOne_327 : decode prog_14_method_23_code 327 = .ok (.isub, 1) := by decide +kernel
theorem d_M_tellOne_328 : decode prog_14_method_23_code 328 = .ok (.istore_n 1, 1) := by decide +kernel
theorem d_M_tellOne_329 : decode prog_14_method_23_code 329 = .ok (.iload_n 1, 1) := by decide +kernel
theorem d_M_tellOne_330 : decode prog_14_method_23_code 330 = .ok (.ifCond .lt 17, 3) := by decide +kernel
theorem d_M_tellOne_333 : decode prog_14_method_23_code 333 = .ok (.aload_n 0, 1) := by decide +kernel
theorem d_M_tellOne_334 : decode prog_14_method_23_code 334 = .ok (.getfield 20, 3) := by decide +kernel
theorem d_M_tellOne_337 : decode prog_14_method_23_code 337 = .ok (.aload_n 0, 1) := by decide +kernel
theorem d_M_tellOne_338 : decode prog_14_method_23_code 338 = .ok (.getfield 215, 3) := by decide +kernel
theorem d_M_tellOne_341 : decode prog_14_method_23_code 341 = .ok (.iaload, 1) := by decide +kernel
theorem d_M_tellOne_342 : decode prog_14_method_23_code 342 = .ok (.bipush 26, 2) := by decide +kernel
theorem d_M_tellOne_344 : decode prog_14_method_23_code 344 = .ok (.if_icmp .le 8, 3) := by decide +kernel
theorem d_M_tellOne_347 : decode prog_14_method_23_code 347 = .ok (.aload_n 0, 1) := by decide +kernel
theorem d_M_tellOne_348 : decode prog_14_method_23_code 348 = .ok (.iconst 1, 1) := by decide +kernel
theorem d_M_tellOne_349 : decode prog_14_method_23_code 349 = .ok (.invokevirtual 227, 3) := by decide +kernel
theorem d_M_tellOne_352 : decode prog_14_method_23_code 352 = .ok (.aload_n 0, 1) := by decide +kernel
theorem d_M_tellOne_353 : decode prog_14_method_23_code 353 = .ok (.getfield 212, 3) := by decide +kernel
theorem d_M_tellOne_356 : decode prog_14_method_23_code 356 = .ok (.ifCond .le 4, 3) := by decide +kernel
theorem d_M_tellOne_359 : decode prog_14_method_23_code 359 = .ok (.return_, 1) := by decide +kernel
theorem d_M_tellOne_360 : decode prog_14_method_23_code 360 = .ok (.aload_n 0, 1) := by decide +kernel
theorem d_M_tellOne_361 : decode prog_14_method_23_code 361 = .ok (.invokevirtual 233, 3) := by decide +kernel
theorem d_M_tellOne_364 : decode prog_14_method_23_code 364 = .ok (.aload_n 0, 1) := by decide +kernel
theorem d_M_tellOne_365 : decode prog_14_method_23_code 365 = .ok (.iload_n 1, 1) := by decide +kernel
theorem d_M_tellOne_366 : decode prog_14_method_23_code 366 = .ok (.invokevirtual 290, 3) := by decide +kernel
theorem d_M_tellOne_369 : decode prog_14_method_23_code 369 = .ok (.return_, 1) := by decide +kernel
noncomputable def F_M_tellOne : Sm := sSeq (sSw (aI 0 (gR 12 5 (vR 0)) (gI 12 11 (vR 0))) [(ii 20, sBlk 1 (sSeq (sCall (mV 12 D_M_roomFor) [asV Value.ref (vR 0), asV Value.int (aI 0 (gR 12 23 (vR 0)) (gI 12 19 (vR 0))), asV Value.int (kI (ii 6))]) (sSeq (sIf (o1 (fun x => decide (x > 0)) (gI 12 13 (vR 0))) (sRetV) (sSkip)) (sSeq (sDecl (asV Value.int (cI (mV 12 D_M_named) [asV Value.ref (vR 0)]))) (sSeq (sAst 0 (gR 12 24 (vR 0)) (o2 (fun x y => x + y) (o2 (fun x y => x * y) (kI (ii 6)) (gI 12 19 (vR 0))) (aI 0 (gR 12 23 (vR 0)) (gI 12 19 (vR 0)))) (cI (mV 12 D_M_bounded) [asV Value.ref (vR 0), asV Value.int (kI (ii 1)), asV Value.int (kI (ii 9))])) (sSeq (sCall (mV 12 D_M_endsName) [asV Value.ref (vR 0), asV Value.int (vI 1), asV Value.int (aI 0 (gR 12 23 (vR 0)) (gI 12 19 (vR 0)))]) (sSeq (sIf (o1 (fun x => decide (x = 0)) (gI 12 13 (vR 0))) (sAop 0 (gR 12 23 (vR 0)) (gI 12 19 (vR 0)) (fun x y => x + y) (kI (ii 1))) (sSkip)) (sBrk 1)))))))), (ii 21, sBlk 1 (sSeq (sCall (mV 12 D_M_roomFor) [asV Value.ref (vR 0), asV Value.int (aI 0 (gR 12 25 (vR 0)) (gI 12 19 (vR 0))), asV Value.int (kI (ii 5))]) (sSeq (sIf (o1 (fun x => decide (x > 0)) (gI 12 13 (vR 0))) (sRetV) (sSkip)) (sSeq (sDecl (asV Value.int (o2 (fun x y => x + y) (o2 (fun x y => x * y) (kI (ii 5)) (gI 12 19 (vR 0))) (aI 0 (gR 12 25 (vR 0)) (gI 12 19 (vR 0)))))) (sSeq (sDecl (asV Value.int (cI (mV 12 D_M_named) [asV Value.ref (vR 0)]))) (sSeq (sAst 0 (gR 12 26 (vR 0)) (vI 1) (cI (mV 12 D_M_known) [asV Value.ref (vR 0), asV Value.int (kI (ii 0))])) (sSeq (sAst 0 (gR 12 27 (vR 0)) (vI 1) (cI (mV 12 D_M_bounded) [asV Value.ref (vR 0), asV Value.int (kI (ii 1)), asV Value.int (kI (ii 6))])) (sSeq (sCall (mV 12 D_M_endsName) [asV Value.ref (vR 0), asV Value.int (vI 2), asV Value.int (o2 (fun x y => x + y) (kI (ii 10)) (aI 0 (gR 12 25 (vR 0)) (gI 12 19 (vR 0))))]) (sSeq (sIf (o1 (fun x => decide (x = 0)) (gI 12 13 (vR 0))) (sAop 0 (gR 12 25 (vR 0)) (gI 12 19 (vR 0)) (fun x y => x + y) (kI (ii 1))) (sSkip)) (sBrk 1)))))))))), (ii 22, sSeq (sCall (mV 12 D_M_roomFor) [asV Value.ref (vR 0), asV Value.int (aI 0 (gR 12 28 (vR 0)) (gI 12 19 (vR 0))), asV Value.int (kI (ii 30))]) (sSeq (sIf (o1 (fun x => decide (x = 0)) (gI 12 13 (vR 0))) (sCall (mV 12 D_M_tellWants) [asV Value.ref (vR 0)]) (sSkip)) (sBrk 1))), (ii 27, sSeq (sCall (mV 12 D_M_goesOn) [asV Value.ref (vR 0)]) (sSeq (sAst 0 (gR 12 30 (vR 0)) (gI 12 19 (vR 0)) (cI (mV 12 D_M_bounded) [asV Value.ref (vR 0), asV Value.int (kI (ii 0)), asV Value.int (kI (ii 9999))])) (sSeq (sCall (mV 12 D_M_must) [asV Value.ref (vR 0), asV Value.int (kI (ii 4))]) (sBrk 1))))] (sBlk 1 (sSeq (sDecl (asV Value.int (o2 (fun x y => x - y) (aI 0 (gR 12 5 (vR 0)) (gI 12 11 (vR 0))) (kI (ii 23))))) (sSeq (sIf (cOr (o1 (fun x => decide (x < 0)) (vI 1)) (o2 (fun x y => decide (x > y)) (aI 0 (gR 12 5 (vR 0)) (gI 12 11 (vR 0))) (kI (ii 26)))) (sCall (mV 12 D_M_fail) [asV Value.ref (vR 0), asV Value.int (kI (ii 1))]) (sSkip)) (sSeq (sIf (o1 (fun x => decide (x > 0)) (gI 12 13 (vR 0))) (sRetV) (sSkip)) (sSeq (sCall (mV 12 D_M_goesOn) [asV Value.ref (vR 0)]) (sCall (mV 12 D_M_tellLaw) [asV Value.ref (vR 0), asV Value.int (vI 1)]))))))) (sRetV)
theorem mf_M_tellOne : Mf y_M_tellOne prog_14_method_23_code 3 none 0 := ⟨tw_1625, tw_134, by decide +kernel⟩
noncomputable def D_M_tellOne : Dn := runS [1] F_M_tellOne
set_option maxRecDepth 100000 in
theorem ok_M_tellOne : MOK y_M_tellOne prog_14_method_23_code 3 none 6 0 0 D_M_tellOne := MOK.of (by decide) (by decide) (show SO Y_M_tellOne [(0, 1)] [(0, 1)] 0 370 (([], 0), ([], 0)) F_M_tellOne from
  (s_seq (sl1 := [(0, 1)]) (p1 := 369) (s_tab (p1 := 9) (P := [(ii 20, 56), (ii 21, 150), (ii 22, 258), (ii 27, 287)]) (pd := 316) (jc := ([], 0)) (dflt := 307) (lo := 20) (hi := 27) (offs := #[47, 141, 249, 307, 307, 307, 307, 278]) (len := 47) (e_iald (p1 := 4) (p2 := 8) (e_gR (k0 := 5) (p1 := 1) cf_12 (e_aload_n (k0 := 0) d_M_tellOne_0 rfl rfl) (by decide) tw_1365 d_M_tellOne_1) (e_gI (k0 := 11) (p1 := 5) cf_12 (e_aload_n (k0 := 0) d_M_tellOne_4 rfl rfl) (by decide) tw_1371 d_M_tellOne_5) d_M_tellOne_8) d_M_tellOne_9 (by decide) (by decide +kernel) ⟨rfl, (s_blk (sl1 := [(0, 1), (1, 1)]) (s_seq (sl1 := [(0, 1)]) (p1 := 71) (s_call (p1 := 68) (a_cons (ι := Value.ref) (k0 := 1) (p1 := 57) (fun _ => rfl) (e_aload_n (k0 := 0) d_M_tellOne_56 rfl rfl) (a_cons (ι := Value.int) (k0 := 1) (p1 := 66) (fun _ => rfl) (e_iald (p1 := 61) (p2 := 65) (e_gR (k0 := 23) (p1 := 58) cf_12 (e_aload_n (k0 := 0) d_M_tellOne_57 rfl rfl) (by decide) tw_1383 d_M_tellOne_58) (e_gI (k0 := 19) (p1 := 62) cf_12 (e_aload_n (k0 := 0) d_M_tellOne_61 rfl rfl) (by decide) tw_1379 d_M_tellOne_62) d_M_tellOne_65) (a_cons (ι := Value.int) (k0 := 1) (p1 := 68) (fun _ => rfl) (e_bipush d_M_tellOne_66 (by decide)) a_nil))) (k_virt ok_M_roomFor mf_M_roomFor ⟨tw_1628, tw_56⟩ rfl tw_1626 d_M_tellOne_68 (by decide) (by decide) (by decide))) (s_seq (sl1 := [(0, 1)]) (p1 := 79) (s_if (pt := 78) (pf := 79) (c_if_leF (p1 := 75) (tg := 79) (e_gI (k0 := 13) (p1 := 72) cf_12 (e_aload_n (k0 := 0) d_M_tellOne_71 rfl rfl) (by decide) tw_1373 d_M_tellOne_72) d_M_tellOne_75 rfl) (s_retV rfl d_M_tellOne_78) s_skip) (s_seq (sl1 := [(0, 1), (1, 1)]) (p1 := 84) (s_decl (p1 := 83) (e_cI (p1 := 80) (a_cons (ι := Value.ref) (k0 := 1) (p1 := 80) (fun _ => rfl) (e_aload_n (k0 := 0) d_M_tellOne_79 rfl rfl) a_nil) (k_virt ok_M_named mf_M_named ⟨tw_1640, tw_59⟩ rfl tw_1638 d_M_tellOne_80 (by decide) (by decide) (by decide))) (t_istore_n d_M_tellOne_83 rfl (by decide)) rfl) (s_seq (sl1 := [(0, 1), (1, 1)]) (p1 := 113) (s_ast (p1 := 88) (p2 := 105) (p3 := 112) (e_gR (k0 := 24) (p1 := 85) cf_12 (e_aload_n (k0 := 0) d_M_tellOne_84 rfl rfl) (by decide) tw_1384 d_M_tellOne_85) (e_iadd (p1 := 95) (p2 := 104) (e_imul (p1 := 90) (p2 := 94) (e_bipush d_M_tellOne_88 (by decide)) (e_gI (k0 := 19) (p1 := 91) cf_12 (e_aload_n (k0 := 0) d_M_tellOne_90 rfl rfl) (by decide) tw_1379 d_M_tellOne_91) d_M_tellOne_94) (e_iald (p1 := 99) (p2 := 103) (e_gR (k0 := 23) (p1 := 96) cf_12 (e_aload_n (k0 := 0) d_M_tellOne_95 rfl rfl) (by decide) tw_1383 d_M_tellOne_96) (e_gI (k0 := 19) (p1 := 100) cf_12 (e_aload_n (k0 := 0) d_M_tellOne_99 rfl rfl) (by decide) tw_1379 d_M_tellOne_100) d_M_tellOne_103) d_M_tellOne_104) (e_cI (p1 := 109) (a_cons (ι := Value.ref) (k0 := 1) (p1 := 106) (fun _ => rfl) (e_aload_n (k0 := 0) d_M_tellOne_105 rfl rfl) (a_cons (ι := Value.int) (k0 := 1) (p1 := 107) (fun _ => rfl) (e_iconst d_M_tellOne_106 (by decide)) (a_cons (ι := Value.int) (k0 := 1) (p1 := 109) (fun _ => rfl) (e_bipush d_M_tellOne_107 (by decide)) a_nil))) (k_virt ok_M_bounded mf_M_bounded ⟨tw_1652, tw_62⟩ rfl tw_1650 d_M_tellOne_109 (by decide) (by decide) (by decide))) (as_i d_M_tellOne_112)) (s_seq (sl1 := [(0, 1), (1, 1)]) (p1 := 127) (s_call (p1 := 124) (a_cons (ι := Value.ref) (k0 := 1) (p1 := 114) (fun _ => rfl) (e_aload_n (k0 := 0) d_M_tellOne_113 rfl rfl) (a_cons (ι := Value.int) (k0 := 1) (p1 := 115) (fun _ => rfl) (e_iload_n (k0 := 1) d_M_tellOne_114 rfl rfl) (a_cons (ι := Value.int) (k0 := 1) (p1 := 124) (fun _ => rfl) (e_iald (p1 := 119) (p2 := 123) (e_gR (k0 := 23) (p1 := 116) cf_12 (e_aload_n (k0 := 0) d_M_tellOne_115 rfl rfl) (by decide) tw_1383 d_M_tellOne_116) (e_gI (k0 := 19) (p1 := 120) cf_12 (e_aload_n (k0 := 0) d_M_tellOne_119 rfl rfl) (by decide) tw_1379 d_M_tellOne_120) d_M_tellOne_123) a_nil))) (k_virt ok_M_endsName mf_M_endsName ⟨tw_1656, tw_63⟩ rfl tw_1654 d_M_tellOne_124 (by decide) (by decide) (by decide))) (s_seq (sl1 := [(0, 1), (1, 1)]) (p1 := 369) (s_if (pt := 134) (pf := 369) (p1 := 369) (c_if_neF (p1 := 131) (tg := 369) (e_gI (k0 := 13) (p1 := 128) cf_12 (e_aload_n (k0 := 0) d_M_tellOne_127 rfl rfl) (by decide) tw_1373 d_M_tellOne_128) d_M_tellOne_131 rfl) (s_goto (p1 := 147) (s_aop (p1 := 138) (p2 := 142) (p3 := 145) (e_gR (k0 := 23) (p1 := 135) cf_12 (e_aload_n (k0 := 0) d_M_tellOne_134 rfl rfl) (by decide) tw_1383 d_M_tellOne_135) (e_gI (k0 := 19) (p1 := 139) cf_12 (e_aload_n (k0 := 0) d_M_tellOne_138 rfl rfl) (by decide) tw_1379 d_M_tellOne_139) d_M_tellOne_142 (ad_i d_M_tellOne_143) (e_iconst d_M_tellOne_144 (by decide)) (op_iadd d_M_tellOne_145) (as_i d_M_tellOne_146)) d_M_tellOne_147 rfl) s_skip) (s_brk rfl))))))) rfl), ⟨rfl, (s_blk (sl1 := [(0, 1), (1, 1), (2, 1)]) (s_seq (sl1 := [(0, 1)]) (p1 := 164) (s_call (p1 := 161) (a_cons (ι := Value.ref) (k0 := 1) (p1 := 151) (fun _ => rfl) (e_aload_n (k0 := 0) d_M_tellOne_150 rfl rfl) (a_cons (ι := Value.int) (k0 := 1) (p1 := 160) (fun _ => rfl) (e_iald (p1 := 155) (p2 := 159) (e_gR (k0 := 25) (p1 := 152) cf_12 (e_aload_n (k0 := 0) d_M_tellOne_151 rfl rfl) (by decide) tw_1385 d_M_tellOne_152) (e_gI (k0 := 19) (p1 := 156) cf_12 (e_aload_n (k0 := 0) d_M_tellOne_155 rfl rfl) (by decide) tw_1379 d_M_tellOne_156) d_M_tellOne_159) (a_cons (ι := Value.int) (k0 := 1) (p1 := 161) (fun _ => rfl) (e_iconst d_M_tellOne_160 (by decide)) a_nil))) (k_virt ok_M_roomFor mf_M_roomFor ⟨tw_1628, tw_56⟩ rfl tw_1626 d_M_tellOne_161 (by decide) (by decide) (by decide))) (s_seq (sl1 := [(0, 1)]) (p1 := 172) (s_if (pt := 171) (pf := 172) (c_if_leF (p1 := 168) (tg := 172) (e_gI (k0 := 13) (p1 := 165) cf_12 (e_aload_n (k0 := 0) d_M_tellOne_164 rfl rfl) (by decide) tw_1373 d_M_tellOne_165) d_M_tellOne_168 rfl) (s_retV rfl d_M_tellOne_171) s_skip) (s_seq (sl1 := [(0, 1), (1, 1)]) (p1 := 189) (s_decl (p1 := 188) (e_iadd (p1 := 178) (p2 := 187) (e_imul (p1 := 173) (p2 := 177) (e_iconst d_M_tellOne_172 (by decide)) (e_gI (k0 := 19) (p1 := 174) cf_12 (e_aload_n (k0 := 0) d_M_tellOne_173 rfl rfl) (by decide) tw_1379 d_M_tellOne_174) d_M_tellOne_177) (e_iald (p1 := 182) (p2 := 186) (e_gR (k0 := 25) (p1 := 179) cf_12 (e_aload_n (k0 := 0) d_M_tellOne_178 rfl rfl) (by decide) tw_1385 d_M_tellOne_179) (e_gI (k0 := 19) (p1 := 183) cf_12 (e_aload_n (k0 := 0) d_M_tellOne_182 rfl rfl) (by decide) tw_1379 d_M_tellOne_183) d_M_tellOne_186) d_M_tellOne_187) (t_istore_n d_M_tellOne_188 rfl (by decide)) rfl) (s_seq (sl1 := [(0, 1), (1, 1), (2, 1)]) (p1 := 194) (s_decl (p1 := 193) (e_cI (p1 := 190) (a_cons (ι := Value.ref) (k0 := 1) (p1 := 190) (fun _ => rfl) (e_aload_n (k0 := 0) d_M_tellOne_189 rfl rfl) a_nil) (k_virt ok_M_named mf_M_named ⟨tw_1640, tw_59⟩ rfl tw_1638 d_M_tellOne_190 (by decide) (by decide) (by decide))) (t_istore_n d_M_tellOne_193 rfl (by decide)) rfl) (s_seq (sl1 := [(0, 1), (1, 1), (2, 1)]) (p1 := 205) (s_ast (p1 := 198) (p2 := 199) (p3 := 204) (e_gR (k0 := 26) (p1 := 195) cf_12 (e_aload_n (k0 := 0) d_M_tellOne_194 rfl rfl) (by decide) tw_1386 d_M_tellOne_195) (e_iload_n (k0 := 1) d_M_tellOne_198 rfl rfl) (e_cI (p1 := 201) (a_cons (ι := Value.ref) (k0 := 1) (p1 := 200) (fun _ => rfl) (e_aload_n (k0 := 0) d_M_tellOne_199 rfl rfl) (a_cons (ι := Value.int) (k0 := 1) (p1 := 201) (fun _ => rfl) (e_iconst d_M_tellOne_200 (by decide)) a_nil)) (k_virt ok_M_known mf_M_known ⟨tw_1660, tw_64⟩ rfl tw_1658 d_M_tellOne_201 (by decide) (by decide) (by decide))) (as_i d_M_tellOne_204)) (s_seq (sl1 := [(0, 1), (1, 1), (2, 1)]) (p1 := 218) (s_ast (p1 := 209) (p2 := 210) (p3 := 217) (e_gR (k0 := 27) (p1 := 206) cf_12 (e_aload_n (k0 := 0) d_M_tellOne_205 rfl rfl) (by decide) tw_1387 d_M_tellOne_206) (e_iload_n (k0 := 1) d_M_tellOne_209 rfl rfl) (e_cI (p1 := 214) (a_cons (ι := Value.ref) (k0 := 1) (p1 := 211) (fun _ => rfl) (e_aload_n (k0 := 0) d_M_tellOne_210 rfl rfl) (a_cons (ι := Value.int) (k0 := 1) (p1 := 212) (fun _ => rfl) (e_iconst d_M_tellOne_211 (by decide)) (a_cons (ι := Value.int) (k0 := 1) (p1 := 214) (fun _ => rfl) (e_bipush d_M_tellOne_212 (by decide)) a_nil))) (k_virt ok_M_bounded mf_M_bounded ⟨tw_1652, tw_62⟩ rfl tw_1650 d_M_tellOne_214 (by decide) (by decide) (by decide))) (as_i d_M_tellOne_217)) (s_seq (sl1 := [(0, 1), (1, 1), (2, 1)]) (p1 := 235) (s_call (p1 := 232) (a_cons (ι := Value.ref) (k0 := 1) (p1 := 219) (fun _ => rfl) (e_aload_n (k0 := 0) d_M_tellOne_218 rfl rfl) (a_cons (ι := Value.int) (k0 := 1) (p1 := 220) (fun _ => rfl) (e_iload_n (k0 := 2) d_M_tellOne_219 rfl rfl) (a_cons (ι := Value.int) (k0 := 1) (p1 := 232) (fun _ => rfl) (e_iadd (p1 := 222) (p2 := 231) (e_bipush d_M_tellOne_220 (by decide)) (e_iald (p1 := 226) (p2 := 230) (e_gR (k0 := 25) (p1 := 223) cf_12 (e_aload_n (k0 := 0) d_M_tellOne_222 rfl rfl) (by decide) tw_1385 d_M_tellOne_223) (e_gI (k0 := 19) (p1 := 227) cf_12 (e_aload_n (k0 := 0) d_M_tellOne_226 rfl rfl) (by decide) tw_1379 d_M_tellOne_227) d_M_tellOne_230) d_M_tellOne_231) a_nil))) (k_virt ok_M_endsName mf_M_endsName ⟨tw_1656, tw_63⟩ rfl tw_1654 d_M_tellOne_232 (by decide) (by decide) (by decide))) (s_seq (sl1 := [(0, 1), (1, 1), (2, 1)]) (p1 := 369) (s_if (pt := 242) (pf := 369) (p1 := 369) (c_if_neF (p1 := 239) (tg := 369) (e_gI (k0 := 13) (p1 := 236) cf_12 (e_aload_n (k0 := 0) d_M_tellOne_235 rfl rfl) (by decide) tw_1373 d_M_tellOne_236) d_M_tellOne_239 rfl) (s_goto (p1 := 255) (s_aop (p1 := 246) (p2 := 250) (p3 := 253) (e_gR (k0 := 25) (p1 := 243) cf_12 (e_aload_n (k0 := 0) d_M_tellOne_242 rfl rfl) (by decide) tw_1385 d_M_tellOne_243) (e_gI (k0 := 19) (p1 := 247) cf_12 (e_aload_n (k0 := 0) d_M_tellOne_246 rfl rfl) (by decide) tw_1379 d_M_tellOne_247) d_M_tellOne_250 (ad_i d_M_tellOne_251) (e_iconst d_M_tellOne_252 (by decide)) (op_iadd d_M_tellOne_253) (as_i d_M_tellOne_254)) d_M_tellOne_255 rfl) s_skip) (s_brk rfl))))))))) rfl), ⟨rfl, (s_seq (sl1 := [(0, 1)]) (p1 := 273) (s_call (p1 := 270) (a_cons (ι := Value.ref) (k0 := 1) (p1 := 259) (fun _ => rfl) (e_aload_n (k0 := 0) d_M_tellOne_258 rfl rfl) (a_cons (ι := Value.int) (k0 := 1) (p1 := 268) (fun _ => rfl) (e_iald (p1 := 263) (p2 := 267) (e_gR (k0 := 28) (p1 := 260) cf_12 (e_aload_n (k0 := 0) d_M_tellOne_259 rfl rfl) (by decide) tw_1388 d_M_tellOne_260) (e_gI (k0 := 19) (p1 := 264) cf_12 (e_aload_n (k0 := 0) d_M_tellOne_263 rfl rfl) (by decide) tw_1379 d_M_tellOne_264) d_M_tellOne_267) (a_cons (ι := Value.int) (k0 := 1) (p1 := 270) (fun _ => rfl) (e_bipush d_M_tellOne_268 (by decide)) a_nil))) (k_virt ok_M_roomFor mf_M_roomFor ⟨tw_1628, tw_56⟩ rfl tw_1626 d_M_tellOne_270 (by decide) (by decide) (by decide))) (s_seq (sl1 := [(0, 1)]) (p1 := 369) (s_if (pt := 280) (pf := 369) (p1 := 369) (c_if_neF (p1 := 277) (tg := 369) (e_gI (k0 := 13) (p1 := 274) cf_12 (e_aload_n (k0 := 0) d_M_tellOne_273 rfl rfl) (by decide) tw_1373 d_M_tellOne_274) d_M_tellOne_277 rfl) (s_goto (p1 := 284) (s_call (p1 := 281) (a_cons (ι := Value.ref) (k0 := 1) (p1 := 281) (fun _ => rfl) (e_aload_n (k0 := 0) d_M_tellOne_280 rfl rfl) a_nil) (k_virt ok_M_tellWants mf_M_tellWants ⟨tw_1664, tw_65⟩ rfl tw_1662 d_M_tellOne_281 (by decide) (by decide) (by decide))) d_M_tellOne_284 rfl) s_skip) (s_brk rfl))), ⟨rfl, (s_seq (sl1 := [(0, 1)]) (p1 := 291) (s_call (p1 := 288) (a_cons (ι := Value.ref) (k0 := 1) (p1 := 288) (fun _ => rfl) (e_aload_n (k0 := 0) d_M_tellOne_287 rfl rfl) a_nil) (k_virt ok_M_goesOn mf_M_goesOn ⟨tw_1636, tw_58⟩ rfl tw_1634 d_M_tellOne_288 (by decide) (by decide) (by decide))) (s_seq (sl1 := [(0, 1)]) (p1 := 308) (s_ast (p1 := 295) (p2 := 299) (p3 := 307) (e_gR (k0 := 30) (p1 := 292) cf_12 (e_aload_n (k0 := 0) d_M_tellOne_291 rfl rfl) (by decide) tw_1390 d_M_tellOne_292) (e_gI (k0 := 19) (p1 := 296) cf_12 (e_aload_n (k0 := 0) d_M_tellOne_295 rfl rfl) (by decide) tw_1379 d_M_tellOne_296) (e_cI (p1 := 304) (a_cons (ι := Value.ref) (k0 := 1) (p1 := 300) (fun _ => rfl) (e_aload_n (k0 := 0) d_M_tellOne_299 rfl rfl) (a_cons (ι := Value.int) (k0 := 1) (p1 := 301) (fun _ => rfl) (e_iconst d_M_tellOne_300 (by decide)) (a_cons (ι := Value.int) (k0 := 1) (p1 := 304) (fun _ => rfl) (e_sipush d_M_tellOne_301 (by decide)) a_nil))) (k_virt ok_M_bounded mf_M_bounded ⟨tw_1652, tw_62⟩ rfl tw_1650 d_M_tellOne_304 (by decide) (by decide) (by decide))) (as_i d_M_tellOne_307)) (s_seq (sl1 := [(0, 1)]) (p1 := 369) (s_goto (p1 := 313) (s_call (p1 := 310) (a_cons (ι := Value.ref) (k0 := 1) (p1 := 309) (fun _ => rfl) (e_aload_n (k0 := 0) d_M_tellOne_308 rfl rfl) (a_cons (ι := Value.int) (k0 := 1) (p1 := 310) (fun _ => rfl) (e_iconst d_M_tellOne_309 (by decide)) a_nil)) (k_virt ok_M_must mf_M_must ⟨tw_1644, tw_60⟩ rfl tw_1642 d_M_tellOne_310 (by decide) (by decide) (by decide))) d_M_tellOne_313 rfl) (s_brk rfl)))), trivial⟩⟩⟩⟩ (s_blk (sl1 := [(0, 1), (1, 1)]) (s_seq (sl1 := [(0, 1), (1, 1)]) (p1 := 329) (s_decl (p1 := 328) (e_isub (p1 := 325) (p2 := 327) (e_iald (p1 := 320) (p2 := 324) (e_gR (k0 := 5) (p1 := 317) cf_12 (e_aload_n (k0 := 0) d_M_tellOne_316 rfl rfl) (by decide) tw_1365 d_M_tellOne_317) (e_gI (k0 := 11) (p1 := 321) cf_12 (e_aload_n (k0 := 0) d_M_tellOne_320 rfl rfl) (by decide) tw_1371 d_M_tellOne_321) d_M_tellOne_324) (e_bipush d_M_tellOne_325 (by decide)) d_M_tellOne_327) (t_istore_n d_M_tellOne_328 rfl (by decide)) rfl) (s_seq (sl1 := [(0, 1), (1, 1)]) (p1 := 352) (s_if (pt := 347) (pf := 352) (c_or (p1 := 333) (c_if_ltT (p1 := 330) (tg := 347) (e_iload_n (k0 := 1) d_M_tellOne_329 rfl rfl) d_M_tellOne_330 rfl) (c_icmp_leF (p1 := 342) (p2 := 344) (tg := 352) (e_iald (p1 := 337) (p2 := 341) (e_gR (k0 := 5) (p1 := 334) cf_12 (e_aload_n (k0 := 0) d_M_tellOne_333 rfl rfl) (by decide) tw_1365 d_M_tellOne_334) (e_gI (k0 := 11) (p1 := 338) cf_12 (e_aload_n (k0 := 0) d_M_tellOne_337 rfl rfl) (by decide) tw_1371 d_M_tellOne_338) d_M_tellOne_341) (e_bipush d_M_tellOne_342 (by decide)) d_M_tellOne_344 rfl)) (s_call (p1 := 349) (a_cons (ι := Value.ref) (k0 := 1) (p1 := 348) (fun _ => rfl) (e_aload_n (k0 := 0) d_M_tellOne_347 rfl rfl) (a_cons (ι := Value.int) (k0 := 1) (p1 := 349) (fun _ => rfl) (e_iconst d_M_tellOne_348 (by decide)) a_nil)) (k_virt ok_M_fail mf_M_fail ⟨tw_1632, tw_57⟩ rfl tw_1630 d_M_tellOne_349 (by decide) (by decide) (by decide))) s_skip) (s_seq (sl1 := [(0, 1), (1, 1)]) (p1 := 360) (s_if (pt := 359) (pf := 360) (c_if_leF (p1 := 356) (tg := 360) (e_gI (k0 := 13) (p1 := 353) cf_12 (e_aload_n (k0 := 0) d_M_tellOne_352 rfl rfl) (by decide) tw_1373 d_M_tellOne_353) d_M_tellOne_356 rfl) (s_retV rfl d_M_tellOne_359) s_skip) (s_seq (sl1 := [(0, 1), (1, 1)]) (p1 := 364) (s_call (p1 := 361) (a_cons (ι := Value.ref) (k0 := 1) (p1 := 361) (fun _ => rfl) (e_aload_n (k0 := 0) d_M_tellOne_360 rfl rfl) a_nil) (k_virt ok_M_goesOn mf_M_goesOn ⟨tw_1636, tw_58⟩ rfl tw_1634 d_M_tellOne_361 (by decide) (by decide) (by decide))) (s_call (p1 := 366) (a_cons (ι := Value.ref) (k0 := 1) (p1 := 365) (fun _ => rfl) (e_aload_n (k0 := 0) d_M_tellOne_364 rfl rfl) (a_cons (ι := Value.int) (k0 := 1) (p1 := 366) (fun _ => rfl) (e_iload_n (k0 := 1) d_M_tellOne_365 rfl rfl) a_nil)) (k_virt ok_M_tellLaw mf_M_tellLaw ⟨tw_1668, tw_66⟩ rfl tw_1666 d_M_tellOne_366 (by decide) (by decide) (by decide))))))) rfl)) (s_retV rfl d_M_tellOne_369)))
/-! BlinkerCrossModel.begins()V -/
abbrev y_M_begins : MethodName := ⟨"BlinkerCrossModel", "begins", "()V"⟩
abbrev Y_M_begins : Yt := (prog_14_method_41_code, 2, "BlinkerCrossModel", 0, none, "begins")
theorem d_M_begins_0 : decode prog_14_method_41_code 0 = .ok (.iconst 0, 1) := by decide +kernel
theorem d_M_begins_1 : decode prog_14_method_41_code 1 = .ok (.istore_n 1, 1) := by decide +kernel
theorem d_M_begins_2 : decode prog_14_method_41_code 2 = .ok (.iload_n 1, 1) := by decide +kernel
theorem d_M_begins_3 : decode prog_14_method_41_code 3 = .ok (.bipush 56, 2) := by decide +kernel
theorem d_M_begins_5 : decode prog_14_method_41_code 5 = .ok (.if_icmp .ge 16, 3) := by decide +kernel
theorem d_M_begins_8 : decode prog_14_method_41_code 8 = .ok (.aload_n 0, 1) := by decide +kernel
theorem d_M_begins_9 : decode prog_14_method_41_code 9 = .ok (.getfield 110, 3) := by decide +kernel
theorem d_M_begins_12 : decode prog_14_method_41_code 12 = .ok (.iload_n 1, 1) := by decide +kernel
theorem d_M_begins_13 : decode prog_14_method_41_code 13 = .ok (.iconst 0, 1) := by decide +kernel
theorem d_M_begins_14 : decode prog_14_method_41_code 14 = .ok (.iastore, 1) := by decide +kernel
theorem d_M_begins_15 : decode prog_14_method_41_code 15 = .ok (.iinc 1 1, 3) := by decide +kernel
theorem d_M_begins_18 : decode prog_14_method_41_code 18 = .ok (.goto (-16), 3) := by decide +kernel
theorem d_M_begins_21 : decode prog_14_method_41_code 21 = .ok (.iconst 0, 1) := by decide +kernel
theorem d_M_begins_22 : decode prog_14_method_41_code 22 = .ok (.istore_n 1, 1) := by decide +kernel
theorem d_M_begins_23 : decode prog_14_method_41_code 23 = .ok (.iload_n 1, 1) := by decide +kernel
theorem d_M_begins_24 : decode prog_14_method_41_code 24 = .ok (.aload_n 0, 1) := by decide +kernel
theorem d_M_begins_25 : decode prog_14_method_41_code 25 = .ok (.getfield 52, 3) := by decide +kernel
theorem d_M_begins_28 : decode prog_14_method_41_code 28 = .ok (.aload_n 0, 1) := by decide +kernel
theorem d_M_begins_29 : decode prog_14_method_41_code 29 = .ok (.getfield 242, 3) := by decide +kernel
theorem d_M_begins_32 : decode prog_14_method_41_code 32 = .ok (.iaload, 1) := by decide +kernel
theorem d_M_begins_33 : decode prog_14_method_41_code 33 = .ok (.if_icmp .ge 66, 3) := by decide +kernel
theorem d_M_begins_36 : decode prog_14_method_41_code 36 = .ok (.aload_n 0, 1) := by decide +kernel
theorem d_M_begins_37 : decode prog_14_method_41_code 37 = .ok (.getfield 110, 3) := by decide +kernel
theorem d_M_begins_40 : decode prog_14_method_41_code 40 = .ok (.iload_n 1, 1) := by decide +kernel
theorem d_M_begins_41 : decode prog_14_method_41_code 41 = .ok (.aload_n 0, 1) := by decide +kernel
theorem d_M_begins_42 : decode prog_14_method_41_code 42 = .ok (.getfield 55, 3) := by decide +kernel
theorem d_M_begins_45 : decode prog_14_method_41_code 45 = .ok (.iconst 5, 1) := by decide +kernel
theorem d_M_begins_46 : decode prog_14_method_41_code 46 = .ok (.aload_n 0, 1) := by decide +kernel
theorem d_M_begins_47 : decode prog_14_method_41_code 47 = .ok (.getfield 242, 3) := by decide +kernel
theorem d_M_begins_50 : decode prog_14_method_41_code 50 = .ok (.imul, 1) := by decide +kernel
theorem d_M_begins_51 : decode prog_14_method_41_code 51 = .ok (.iload_n 1, 1) := by decide +kernel
theorem d_M_begins_52 : decode prog_14_method_41_code 52 = .ok (.iadd, 1) := by decide +kernel
theorem d_M_begins_53 : decode prog_14_method_41_code 53 = .ok (.iaload, 1) := by decide +kernel
theorem d_M_begins_54 : decode prog_14_method_41_code 54 = .ok (.iastore, 1) := by decide +kernel
theorem d_M_begins_55 : decode prog_14_method_41_code 55 = .ok (.aload_n 0, 1) := by decide +kernel
theorem d_M_begins_56 : decode prog_14_method_41_code 56 = .ok (.getfield 110, 3) := by decide +kernel
theorem d_M_begins_59 : decode prog_14_method_41_code 59 = .ok (.iconst 5, 1) := by decide +kernel
theorem d_M_begins_60 : decode prog_14_method_41_code 60 = .ok (.iload_n 1, 1) := by decide +kernel
theorem d_M_begins_61 : decode prog_14_method_41_code 61 = .ok (.iadd, 1) := by decide +kernel
theorem d_M_begins_62 : decode prog_14_method_41_code 62 = .ok (.aload_n 0, 1) := by decide +kernel
theorem d_M_begins_63 : decode prog_14_method_41_code 63 = .ok (.getfield 58, 3) := by decide +kernel
theorem d_M_begins_66 : decode prog_14_method_41_code 66 = .ok (.iconst 5, 1) := by decide +kernel
theorem d_M_begins_67 : decode prog_14_method_41_code 67 = .ok (.aload_n 0, 1) := by decide +kernel
theorem d_M_begins_68 : decode prog_14_method_41_code 68 = .ok (.getfield 242, 3) := by decide +kernel
theorem d_M_begins_71 : decode prog_14_method_41_code 71 = .ok (.imul, 1) := by decide +kernel
theorem d_M_begins_72 : decode prog_14_method_41_code 72 = .ok (.iload_n 1, 1) := by decide +kernel
theorem d_M_begins_73 : decode prog_14_method_41_code 73 = .ok (.iadd, 1) := by decide +kernel
theorem d_M_begins_74 : decode prog_14_method_41_code 74 = .ok (.iaload, 1) := by decide +kernel
theorem d_M_begins_75 : decode prog_14_method_41_code 75 = .ok (.iastore, 1) := by decide +kernel
theorem d_M_begins_76 : decode prog_14_method_41_code 76 = .ok (.aload_n 0, 1) := by decide +kernel
theorem d_M_begins_77 : decode prog_14_method_41_code 77 = .ok (.getfield 110, 3) := by decide +kernel
theorem d_M_begins_80 : decode prog_14_method_41_code 80 = .ok (.bipush 10, 2) := by decide +kernel
theorem d_M_begins_82 : decode prog_14_method_41_code 82 = .ok (.iload_n 1, 1) := by decide +kernel
theorem d_M_begins_83 : decode prog_14_method_41_code 83 = .ok (.iadd, 1) := by decide +kernel
theorem d_M_begins_84 : decode prog_14_method_41_code 84 = .ok (.aload_n 0, 1) := by decide +kernel
theorem d_M_begins_85 : decode prog_14_method_41_code 85 = .ok (.getfield 110, 3) := by decide +kernel
theorem d_M_begins_88 : decode prog_14_method_41_code 88 = .ok (.iconst 5, 1) := by decide +kernel
theorem d_M_begins_89 : decode prog_14_method_41_code 89 = .ok (.iload_n 1, 1) := by decide +kernel
theorem d_M_begins_90 : decode prog_14_method_41_code 90 = .ok (.iadd, 1) := by decide +kernel
theorem d_M_begins_91 : decode prog_14_method_41_code 91 = .ok (.iaload, 1) := by decide +kernel
theorem d_M_begins_92 : decode prog_14_method_41_code 92 = .ok (.iastore, 1) := by decide +kernel
theorem d_M_begins_93 : decode prog_14_method_41_code 93 = .ok (.iinc 1 1, 3) := by decide +kernel
theorem d_M_begins_96 : decode prog_14_method_41_code 96 = .ok (.goto (-73), 3) := by decide +kernel
theorem d_M_begins_99 : decode prog_14_method_41_code 99 = .ok (.iconst 0, 1) := by decide +kernel
theorem d_M_begins_100 : decode prog_14_method_41_code 100 = .ok (.istore_n 1, 1) := by decide +kernel
theorem d_M_begins_101 : decode prog_14_method_41_code 101 = .ok (.iload_n 1, 1) := by decide +kernel
theorem d_M_begins_102 : decode prog_14_method_41_code 102 = .ok (.bipush 30, 2) := by decide +kernel
theorem d_M_begins_104 : decode prog_14_method_41_code 104 = .ok (.if_icmp .ge 32, 3) := by decide +kernel
theorem d_M_begins_107 : decode prog_14_method_41_code 107 = .ok (.aload_n 0, 1) := by decide +kernel
theorem d_M_begins_108 : decode prog_14_method_41_code 108 = .ok (.getfield 110, 3) := by decide +kernel
theorem d_M_begins_111 : decode prog_14_method_41_code 111 = .ok (.bipush 25, 2) := by decide +kernel
theorem d_M_begins_113 : decode prog_14_method_41_code 113 = .ok (.iload_n 1, 1) := by decide +kernel
theorem d_M_begins_114 : decode prog_14_method_41_code 114 = .ok (.iadd, 1) := by decide +kernel
theorem d_M_begins_115 : decode prog_14_method_41_code 115 = .ok (.aload_n 0, 1) := by decide +kernel
theorem d_M_begins_116 : decode prog_14_method_41_code 116 = .ok (.getfield 64, 3) := by decide +kernel
theorem d_M_begins_119 : decode prog_14_method_41_code 119 = .ok (.bipush 30, 2) := by decide +kernel
theorem d_M_begins_121 : decode prog_14_method_41_code 121 = .ok (.aload_n 0, 1) := by decide +kernel
theorem d_M_begins_122 : decode prog_14_method_41_code 122 = .ok (.getfield 242, 3) := by decide +kernel
theorem d_M_begins_125 : decode prog_14_method_41_code 125 = .ok (.imul, 1) := by decide +kernel
theorem d_M_begins_126 : decode prog_14_method_41_code 126 = .ok (.iload_n 1, 1) := by decide +kernel
theorem d_M_begins_127 : decode prog_14_method_41_code 127 = .ok (.iadd, 1) := by decide +kernel
theorem d_M_begins_128 : decode prog_14_method_41_code 128 = .ok (.iaload, 1) := by decide +kernel
theorem d_M_begins_129 : decode prog_14_method_41_code 129 = .ok (.iastore, 1) := by decide +kernel
theorem d_M_begins_130 : decode prog_14_method_41_code 130 = .ok (.iinc 1 1, 3) := by decide +kernel
theorem d_M_begins_133 : decode prog_14_method_41_code 133 = .ok (.goto (-32), 3) := by decide +kernel
theorem d_M_begins_136 : decode prog_14_method_41_code 136 = .ok (.aload_n 0, 1) := by decide +kernel
theorem d_M_begins_137 : decode prog_14_method_41_code 137 = .ok (.aload_n 0, 1) := by decide +kernel
theorem d_M_begins_138 : decode prog_14_method_41_code 138 = .ok (.getfield 67, 3) := by decide +kernel
theorem d_M_begins_141 : decode prog_14_method_41_code 141 = .ok (.aload_n 0, 1) := by decide +kernel
theorem d_M_begins_142 : decode prog_14_method_41_code 142 = .ok (.getfield 242, 3) := by decide +kernel
theorem d_M_begins_145 : decode prog_14_method_41_code 145 = .ok (.iaload, 1) := by decide +kernel
theorem d_M_begins_146 : decode prog_14_method_41_code 146 = .ok (.putfield 323, 3) := by decide +kernel
theorem d_M_begins_149 : decode prog_14_method_41_code 149 = .ok (.aload_n 0, 1) := by decide +kernel
theorem d_M_begins_150 : decode prog_14_method_41_code 150 = .ok (.iconst 0, 1) := by decide +kernel
theorem d_M_begins_151 : decode prog_14_method_41_code 151 = .ok (.putfield 326, 3) := by decide +kernel
theorem d_M_begins_154 : decode prog_14_method_41_code 154 = .ok (.aload_n 0, 1) := by decide +kernel
theorem d_M_begins_155 : decode prog_14_method_41_code 155 = .ok (.iconst (-1), 1) := by decide +kernel
theorem d_M_begins_156 : decode prog_14_method_41_code 156 = .ok (.putfield 329, 3) := by decide +kernel
theorem d_M_begins_159 : decode prog_14_method_41_code 159 = .ok (.return_, 1) := by decide +kernel
noncomputable def Lc_M_begins_1 : Xp Bool := o2 (fun x y => decide (x < y)) (vI 1) (kI (ii 56))
noncomputable def Lb_M_begins_1 : Sm := sAst 0 (gR 12 48 (vR 0)) (vI 1) (kI (ii 0))
noncomputable def Lu_M_begins_1 : Sm := sInc 1 (ii 1)
noncomputable def Lc_M_begins_2 : Xp Bool := o2 (fun x y => decide (x < y)) (vI 1) (aI 0 (gR 12 25 (vR 0)) (gI 12 18 (vR 0)))
noncomputable def Lb_M_begins_2 : Sm := sSeq (sAst 0 (gR 12 48 (vR 0)) (vI 1) (aI 0 (gR 12 26 (vR 0)) (o2 (fun x y => x + y) (o2 (fun x y => x * y) (kI (ii 5)) (gI 12 18 (vR 0))) (vI 1)))) (sSeq (sAst 0 (gR 12 48 (vR 0)) (o2 (fun x y => x + y) (kI (ii 5)) (vI 1)) (aI 0 (gR 12 27 (vR 0)) (o2 (fun x y => x + y) (o2 (fun x y => x * y) (kI (ii 5)) (gI 12 18 (vR 0))) (vI 1)))) (sAst 0 (gR 12 48 (vR 0)) (o2 (fun x y => x + y) (kI (ii 10)) (vI 1)) (aI 0 (gR 12 48 (vR 0)) (o2 (fun x y => x + y) (kI (ii 5)) (vI 1)))))
noncomputable def Lu_M_begins_2 : Sm := sInc 1 (ii 1)
noncomputable def Lc_M_begins_3 : Xp Bool := o2 (fun x y => decide (x < y)) (vI 1) (kI (ii 30))
noncomputable def Lb_M_begins_3 : Sm := sAst 0 (gR 12 48 (vR 0)) (o2 (fun x y => x + y) (kI (ii 25)) (vI 1)) (aI 0 (gR 12 29 (vR 0)) (o2 (fun x y => x + y) (o2 (fun x y => x * y) (kI (ii 30)) (gI 12 18 (vR 0))) (vI 1)))
noncomputable def Lu_M_begins_3 : Sm := sInc 1 (ii 1)
noncomputable def F_M_begins : Sm := sSeq (sBlk 1 (sSeq (sDecl (asV Value.int (kI (ii 0)))) (sWh (Lc_M_begins_1) (Lb_M_begins_1) Lu_M_begins_1))) (sSeq (sBlk 1 (sSeq (sDecl (asV Value.int (kI (ii 0)))) (sWh (Lc_M_begins_2) (Lb_M_begins_2) Lu_M_begins_2))) (sSeq (sBlk 1 (sSeq (sDecl (asV Value.int (kI (ii 0)))) (sWh (Lc_M_begins_3) (Lb_M_begins_3) Lu_M_begins_3))) (sSeq (sPut 12 49 (vR 0) (asV Value.int (aI 0 (gR 12 30 (vR 0)) (gI 12 18 (vR 0))))) (sSeq (sPutZ 12 50 (vR 0) (kI (ii 0))) (sSeq (sPut 12 51 (vR 0) (asV Value.int (kI (ii (-1))))) (sRetV))))))
theorem mf_M_begins : Mf y_M_begins prog_14_method_41_code 2 none 0 := ⟨tw_1356, tw_134, by decide +kernel⟩
noncomputable def D_M_begins : Dn := runS [1] F_M_begins
theorem ok_M_begins : MOK y_M_begins prog_14_method_41_code 2 none 0 0 0 D_M_begins := MOK.of (by decide) (by decide) (show SO Y_M_begins [(0, 1)] [(0, 1)] 0 160 (([], 0), ([], 0)) F_M_begins from
  (s_seq (sl1 := [(0, 1)]) (p1 := 21) (s_blk (sl1 := [(0, 1), (1, 1)]) (s_seq (sl1 := [(0, 1), (1, 1)]) (p1 := 2) (s_decl (p1 := 1) (e_iconst d_M_begins_0 (by decide)) (t_istore_n d_M_begins_1 rfl (by decide)) rfl) (s_for (pt := 8) (pu := 15) (pf := 21) (pg := 0) (c_icmp_geF (p1 := 3) (p2 := 5) (tg := 21) (e_iload_n (k0 := 1) d_M_begins_2 rfl rfl) (e_bipush d_M_begins_3 (by decide)) d_M_begins_5 rfl) (s_ast (p1 := 12) (p2 := 13) (p3 := 14) (e_gR (k0 := 48) (p1 := 9) cf_12 (e_aload_n (k0 := 0) d_M_begins_8 rfl rfl) (by decide) tw_1408 d_M_begins_9) (e_iload_n (k0 := 1) d_M_begins_12 rfl rfl) (e_iconst d_M_begins_13 (by decide)) (as_i d_M_begins_14)) (s_goto (p1 := 18) (s_inc (k0 := 1) d_M_begins_15 rfl rfl (Nat.le_of_ble_eq_true rfl) rfl) d_M_begins_18 rfl))) rfl) (s_seq (sl1 := [(0, 1)]) (p1 := 99) (s_blk (sl1 := [(0, 1), (1, 1)]) (s_seq (sl1 := [(0, 1), (1, 1)]) (p1 := 23) (s_decl (p1 := 22) (e_iconst d_M_begins_21 (by decide)) (t_istore_n d_M_begins_22 rfl (by decide)) rfl) (s_for (pt := 36) (pu := 93) (pf := 99) (pg := 0) (c_icmp_geF (p1 := 24) (p2 := 33) (tg := 99) (e_iload_n (k0 := 1) d_M_begins_23 rfl rfl) (e_iald (p1 := 28) (p2 := 32) (e_gR (k0 := 25) (p1 := 25) cf_12 (e_aload_n (k0 := 0) d_M_begins_24 rfl rfl) (by decide) tw_1385 d_M_begins_25) (e_gI (k0 := 18) (p1 := 29) cf_12 (e_aload_n (k0 := 0) d_M_begins_28 rfl rfl) (by decide) tw_1378 d_M_begins_29) d_M_begins_32) d_M_begins_33 rfl) (s_seq (sl1 := [(0, 1), (1, 1)]) (p1 := 55) (s_ast (p1 := 40) (p2 := 41) (p3 := 54) (e_gR (k0 := 48) (p1 := 37) cf_12 (e_aload_n (k0 := 0) d_M_begins_36 rfl rfl) (by decide) tw_1408 d_M_begins_37) (e_iload_n (k0 := 1) d_M_begins_40 rfl rfl) (e_iald (p1 := 45) (p2 := 53) (e_gR (k0 := 26) (p1 := 42) cf_12 (e_aload_n (k0 := 0) d_M_begins_41 rfl rfl) (by decide) tw_1386 d_M_begins_42) (e_iadd (p1 := 51) (p2 := 52) (e_imul (p1 := 46) (p2 := 50) (e_iconst d_M_begins_45 (by decide)) (e_gI (k0 := 18) (p1 := 47) cf_12 (e_aload_n (k0 := 0) d_M_begins_46 rfl rfl) (by decide) tw_1378 d_M_begins_47) d_M_begins_50) (e_iload_n (k0 := 1) d_M_begins_51 rfl rfl) d_M_begins_52) d_M_begins_53) (as_i d_M_begins_54)) (s_seq (sl1 := [(0, 1), (1, 1)]) (p1 := 76) (s_ast (p1 := 59) (p2 := 62) (p3 := 75) (e_gR (k0 := 48) (p1 := 56) cf_12 (e_aload_n (k0 := 0) d_M_begins_55 rfl rfl) (by decide) tw_1408 d_M_begins_56) (e_iadd (p1 := 60) (p2 := 61) (e_iconst d_M_begins_59 (by decide)) (e_iload_n (k0 := 1) d_M_begins_60 rfl rfl) d_M_begins_61) (e_iald (p1 := 66) (p2 := 74) (e_gR (k0 := 27) (p1 := 63) cf_12 (e_aload_n (k0 := 0) d_M_begins_62 rfl rfl) (by decide) tw_1387 d_M_begins_63) (e_iadd (p1 := 72) (p2 := 73) (e_imul (p1 := 67) (p2 := 71) (e_iconst d_M_begins_66 (by decide)) (e_gI (k0 := 18) (p1 := 68) cf_12 (e_aload_n (k0 := 0) d_M_begins_67 rfl rfl) (by decide) tw_1378 d_M_begins_68) d_M_begins_71) (e_iload_n (k0 := 1) d_M_begins_72 rfl rfl) d_M_begins_73) d_M_begins_74) (as_i d_M_begins_75)) (s_ast (p1 := 80) (p2 := 84) (p3 := 92) (e_gR (k0 := 48) (p1 := 77) cf_12 (e_aload_n (k0 := 0) d_M_begins_76 rfl rfl) (by decide) tw_1408 d_M_begins_77) (e_iadd (p1 := 82) (p2 := 83) (e_bipush d_M_begins_80 (by decide)) (e_iload_n (k0 := 1) d_M_begins_82 rfl rfl) d_M_begins_83) (e_iald (p1 := 88) (p2 := 91) (e_gR (k0 := 48) (p1 := 85) cf_12 (e_aload_n (k0 := 0) d_M_begins_84 rfl rfl) (by decide) tw_1408 d_M_begins_85) (e_iadd (p1 := 89) (p2 := 90) (e_iconst d_M_begins_88 (by decide)) (e_iload_n (k0 := 1) d_M_begins_89 rfl rfl) d_M_begins_90) d_M_begins_91) (as_i d_M_begins_92)))) (s_goto (p1 := 96) (s_inc (k0 := 1) d_M_begins_93 rfl rfl (Nat.le_of_ble_eq_true rfl) rfl) d_M_begins_96 rfl))) rfl) (s_seq (sl1 := [(0, 1)]) (p1 := 136) (s_blk (sl1 := [(0, 1), (1, 1)]) (s_seq (sl1 := [(0, 1), (1, 1)]) (p1 := 101) (s_decl (p1 := 100) (e_iconst d_M_begins_99 (by decide)) (t_istore_n d_M_begins_100 rfl (by decide)) rfl) (s_for (pt := 107) (pu := 130) (pf := 136) (pg := 0) (c_icmp_geF (p1 := 102) (p2 := 104) (tg := 136) (e_iload_n (k0 := 1) d_M_begins_101 rfl rfl) (e_bipush d_M_begins_102 (by decide)) d_M_begins_104 rfl) (s_ast (p1 := 111) (p2 := 115) (p3 := 129) (e_gR (k0 := 48) (p1 := 108) cf_12 (e_aload_n (k0 := 0) d_M_begins_107 rfl rfl) (by decide) tw_1408 d_M_begins_108) (e_iadd (p1 := 113) (p2 := 114) (e_bipush d_M_begins_111 (by decide)) (e_iload_n (k0 := 1) d_M_begins_113 rfl rfl) d_M_begins_114) (e_iald (p1 := 119) (p2 := 128) (e_gR (k0 := 29) (p1 := 116) cf_12 (e_aload_n (k0 := 0) d_M_begins_115 rfl rfl) (by decide) tw_1389 d_M_begins_116) (e_iadd (p1 := 126) (p2 := 127) (e_imul (p1 := 121) (p2 := 125) (e_bipush d_M_begins_119 (by decide)) (e_gI (k0 := 18) (p1 := 122) cf_12 (e_aload_n (k0 := 0) d_M_begins_121 rfl rfl) (by decide) tw_1378 d_M_begins_122) d_M_begins_125) (e_iload_n (k0 := 1) d_M_begins_126 rfl rfl) d_M_begins_127) d_M_begins_128) (as_i d_M_begins_129)) (s_goto (p1 := 133) (s_inc (k0 := 1) d_M_begins_130 rfl rfl (Nat.le_of_ble_eq_true rfl) rfl) d_M_begins_133 rfl))) rfl) (s_seq (sl1 := [(0, 1)]) (p1 := 149) (s_put (k0 := 49) (p1 := 137) (p2 := 146) cf_12 (e_aload_n (k0 := 0) d_M_begins_136 rfl rfl) (e_iald (p1 := 141) (p2 := 145) (e_gR (k0 := 30) (p1 := 138) cf_12 (e_aload_n (k0 := 0) d_M_begins_137 rfl rfl) (by decide) tw_1390 d_M_begins_138) (e_gI (k0 := 18) (p1 := 142) cf_12 (e_aload_n (k0 := 0) d_M_begins_141 rfl rfl) (by decide) tw_1378 d_M_begins_142) d_M_begins_145) (by decide) fk_i tw_1409 (Or.inl rfl) d_M_begins_146) (s_seq (sl1 := [(0, 1)]) (p1 := 154) (s_putZ (k0 := 50) (p1 := 150) (p2 := 151) cf_12 (e_aload_n (k0 := 0) d_M_begins_149 rfl rfl) (e_iconst d_M_begins_150 (by decide)) (by decide) rfl tw_1410 rfl d_M_begins_151) (s_seq (sl1 := [(0, 1)]) (p1 := 159) (s_put (k0 := 51) (p1 := 155) (p2 := 156) cf_12 (e_aload_n (k0 := 0) d_M_begins_154 rfl rfl) (e_iconst d_M_begins_155 (by decide)) (by decide) fk_i tw_1411 (Or.inl rfl) d_M_begins_156) (s_retV rfl d_M_begins_159))))))))
/-! BlinkerCrossModel.keepsRow()V -/
abbrev y_M_keepsRow : MethodName := ⟨"BlinkerCrossModel", "keepsRow", "()V"⟩
abbrev Y_M_keepsRow : Yt := (prog_14_method_42_code, 2, "BlinkerCrossModel", 0, none, "keepsRow")
theorem d_M_keepsRow_0 : decode prog_14_method_42_code 0 = .ok (.iconst 0, 1) := by decide +kernel
theorem d_M_keepsRow_1 : decode prog_14_method_42_code 1 = .ok (.istore_n 1, 1) := by decide +kernel
theorem d_M_keepsRow_2 : decode prog_14_method_42_code 2 = .ok (.iload_n 1, 1) := by decide +kernel
theorem d_M_keepsRow_3 : decode prog_14_method_42_code 3 = .ok (.bipush 56, 2) := by decide +kernel
theorem d_M_keepsRow_5 : decode prog_14_method_42_code 5 = .ok (.if_icmp .ge 21, 3) := by decide +kernel
theorem d_M_keepsRow_8 : decode prog_14_method_42_code 8 = .ok (.aload_n 0, 1) := by decide +kernel
theorem d_M_keepsRow_9 : decode prog_14_method_42_code 9 = .ok (.getfield 107, 3) := by decide +kernel
theorem d_M_keepsRow_12 : decode prog_14_method_42_code 12 = .ok (.iload_n 1, 1) := by decide +kernel
theorem d_M_keepsRow_13 : decode prog_14_method_42_code 13 = .ok (.aload_n 0, 1) := by decide +kernel
theorem d_M_keepsRow_14 : decode prog_14_method_42_code 14 = .ok (.getfield 110, 3) := by decide +kernel
theorem d_M_keepsRow_17 : decode prog_14_method_42_code 17 = .ok (.iload_n 1, 1) := by decide +kernel
theorem d_M_keepsRow_18 : decode prog_14_method_42_code 18 = .ok (.iaload, 1) := by decide +kernel
theorem d_M_keepsRow_19 : decode prog_14_method_42_code 19 = .ok (.iastore, 1) := by decide +kernel
theorem d_M_keepsRow_20 : decode prog_14_method_42_code 20 = .ok (.iinc 1 1, 3) := by decide +kernel
theorem d_M_keepsRow_23 : decode prog_14_method_42_code 23 = .ok (.goto (-21), 3) := by decide +kernel
theorem d_M_keepsRow_26 : decode prog_14_method_42_code 26 = .ok (.return_, 1) := by decide +kernel
noncomputable def Lc_M_keepsRow_1 : Xp Bool := o2 (fun x y => decide (x < y)) (vI 1) (kI (ii 56))
noncomputable def Lb_M_keepsRow_1 : Sm := sAst 0 (gR 12 47 (vR 0)) (vI 1) (aI 0 (gR 12 48 (vR 0)) (vI 1))
noncomputable def Lu_M_keepsRow_1 : Sm := sInc 1 (ii 1)
noncomputable def F_M_keepsRow : Sm := sSeq (sBlk 1 (sSeq (sDecl (asV Value.int (kI (ii 0)))) (sWh (Lc_M_keepsRow_1) (Lb_M_keepsRow_1) Lu_M_keepsRow_1))) (sRetV)
theorem mf_M_keepsRow : Mf y_M_keepsRow prog_14_method_42_code 2 none 0 := ⟨tw_1360, tw_134, by decide +kernel⟩
noncomputable def D_M_keepsRow : Dn := runS [1] F_M_keepsRow
theorem ok_M_keepsRow : MOK y_M_keepsRow prog_14_method_42_code 2 none 0 0 0 D_M_keepsRow := MOK.of (by decide) (by decide) (show SO Y_M_keepsRow [(0, 1)] [(0, 1)] 0 27 (([], 0), ([], 0)) F_M_keepsRow from
  (s_seq (sl1 := [(0, 1)]) (p1 := 26) (s_blk (sl1 := [(0, 1), (1, 1)]) (s_seq (sl1 := [(0, 1), (1, 1)]) (p1 := 2) (s_decl (p1 := 1) (e_iconst d_M_keepsRow_0 (by decide)) (t_istore_n d_M_keepsRow_1 rfl (by decide)) rfl) (s_for (pt := 8) (pu := 20) (pf := 26) (pg := 0) (c_icmp_geF (p1 := 3) (p2 := 5) (tg := 26) (e_iload_n (k0 := 1) d_M_keepsRow_2 rfl rfl) (e_bipush d_M_keepsRow_3 (by decide)) d_M_keepsRow_5 rfl) (s_ast (p1 := 12) (p2 := 13) (p3 := 19) (e_gR (k0 := 47) (p1 := 9) cf_12 (e_aload_n (k0 := 0) d_M_keepsRow_8 rfl rfl) (by decide) tw_1407 d_M_keepsRow_9) (e_iload_n (k0 := 1) d_M_keepsRow_12 rfl rfl) (e_iald (p1 := 17) (p2 := 18) (e_gR (k0 := 48) (p1 := 14) cf_12 (e_aload_n (k0 := 0) d_M_keepsRow_13 rfl rfl) (by decide) tw_1408 d_M_keepsRow_14) (e_iload_n (k0 := 1) d_M_keepsRow_17 rfl rfl) d_M_keepsRow_18) (as_i d_M_keepsRow_19)) (s_goto (p1 := 23) (s_inc (k0 := 1) d_M_keepsRow_20 rfl rfl (Nat.le_of_ble_eq_true rfl) rfl) d_M_keepsRow_23 rfl))) rfl) (s_retV rfl d_M_keepsRow_26)))
/-! BlinkerCrossModel.read()I -/
abbrev y_M_read : MethodName := ⟨"BlinkerCrossModel", "read", "()I"⟩
abbrev Y_M_read : Yt := (prog_14_method_20_code, 2, "BlinkerCrossModel", 7, (some .int), "read")
theorem d_M_read_0 : decode prog_14_method_20_code 0 = .ok (.aload_n 0, 1) := by decide +kernel
theorem d_M_read_1 : decode prog_14_method_20_code 1 = .ok (.aload_n 0, 1) := by decide +kernel
theorem d_M_read_2 : decode prog_14_method_20_code 2 = .ok (.getfield 175, 3) := by decide +kernel
theorem d_M_read_5 : decode prog_14_method_20_code 5 = .ok (.putfield 181, 3) := by decide +kernel
theorem d_M_read_8 : decode prog_14_method_20_code 8 = .ok (.iconst 0, 1) := by decide +kernel
theorem d_M_read_9 : decode prog_14_method_20_code 9 = .ok (.istore_n 1, 1) := by decide +kernel
theorem d_M_read_10 : decode prog_14_method_20_code 10 = .ok (.iload_n 1, 1) := by decide +kernel
theorem d_M_read_11 : decode prog_14_method_20_code 11 = .ok (.aload_n 0, 1) := by decide +kernel
theorem d_M_read_12 : decode prog_14_method_20_code 12 = .ok (.getfield 181, 3) := by decide +kernel
theorem d_M_read_15 : decode prog_14_method_20_code 15 = .ok (.if_icmp .ge 21, 3) := by decide +kernel
theorem d_M_read_18 : decode prog_14_method_20_code 18 = .ok (.aload_n 0, 1) := by decide +kernel
theorem d_M_read_19 : decode prog_14_method_20_code 19 = .ok (.getfield 17, 3) := by decide +kernel
theorem d_M_read_22 : decode prog_14_method_20_code 22 = .ok (.iload_n 1, 1) := by decide +kernel
theorem d_M_read_23 : decode prog_14_method_20_code 23 = .ok (.aload_n 0, 1) := by decide +kernel
theorem d_M_read_24 : decode prog_14_method_20_code 24 = .ok (.getfield 13, 3) := by decide +kernel
theorem d_M_read_27 : decode prog_14_method_20_code 27 = .ok (.iload_n 1, 1) := by decide +kernel
theorem d_M_read_28 : decode prog_14_method_20_code 28 = .ok (.baload, 1) := by decide +kernel
theorem d_M_read_29 : decode prog_14_method_20_code 29 = .ok (.bastore, 1) := by decide +kernel
theorem d_M_read_30 : decode prog_14_method_20_code 30 = .ok (.iinc 1 1, 3) := by decide +kernel
theorem d_M_read_33 : decode prog_14_method_20_code 33 = .ok (.goto (-23), 3) := by decide +kernel
theorem d_M_read_36 : decode prog_14_method_20_code 36 = .ok (.aload_n 0, 1) := by decide +kernel
theorem d_M_read_37 : decode prog_14_method_20_code 37 = .ok (.iconst 0, 1) := by decide +kernel
theorem d_M_read_38 : decode prog_14_method_20_code 38 = .ok (.putfield 175, 3) := by decide +kernel
theorem d_M_read_41 : decode prog_14_method_20_code 41 = .ok (.aload_n 0, 1) := by decide +kernel
theorem d_M_read_42 : decode prog_14_method_20_code 42 = .ok (.invokevirtual 236, 3) := by decide +kernel
theorem d_M_read_45 : decode prog_14_method_20_code 45 = .ok (.aload_n 0, 1) := by decide +kernel
theorem d_M_read_46 : decode prog_14_method_20_code 46 = .ok (.iconst 0, 1) := by decide +kernel
theorem d_M_read_47 : decode prog_14_method_20_code 47 = .ok (.putfield 215, 3) := by decide +kernel
theorem d_M_read_50 : decode prog_14_method_20_code 50 = .ok (.aload_n 0, 1) := by decide +kernel
theorem d_M_read_51 : decode prog_14_method_20_code 51 = .ok (.iconst 0, 1) := by decide +kernel
theorem d_M_read_52 : decode prog_14_method_20_code 52 = .ok (.putfield 239, 3) := by decide +kernel
theorem d_M_read_55 : decode prog_14_method_20_code 55 = .ok (.aload_n 0, 1) := by decide +kernel
theorem d_M_read_56 : decode prog_14_method_20_code 56 = .ok (.iconst 0, 1) := by decide +kernel
theorem d_M_read_57 : decode prog_14_method_20_code 57 = .ok (.putfield 212, 3) := by decide +kernel
theorem d_M_read_60 : decode prog_14_method_20_code 60 = .ok (.aload_n 0, 1) := by decide +kernel
theorem d_M_read_61 : decode prog_14_method_20_code 61 = .ok (.iconst 0, 1) := by decide +kernel
theorem d_M_read_62 : decode prog_14_method_20_code 62 = .ok (.putfield 221, 3) := by decide +kernel
theorem d_M_read_65 : decode prog_14_method_20_code 65 = .ok (.aload_n 0, 1) := by decide +kernel
theorem d_M_read_66 : decode prog_14_method_20_code 66 = .ok (.iconst 1, 1) := by decide +kernel
theorem d_M_read_67 : decode prog_14_method_20_code 67 = .ok (.aload_n 0, 1) := by decide +kernel
theorem d_M_read_68 : decode prog_14_method_20_code 68 = .ok (.getfield 242, 3) := by decide +kernel
theorem d_M_read_71 : decode prog_14_method_20_code 71 = .ok (.isub, 1) := by decide +kernel
theorem d_M_read_72 : decode prog_14_method_20_code 72 = .ok (.putfield 245, 3) := by decide +kernel
theorem d_M_read_75 : decode prog_14_method_20_code 75 = .ok (.aload_n 0, 1) := by decide +kernel
theorem d_M_read_76 : decode prog_14_method_20_code 76 = .ok (.iconst 0, 1) := by decide +kernel
theorem d_M_read_77 : decode prog_14_method_20_code 77 = .ok (.putfield 248, 3) := by decide +kernel
theorem d_M_read_80 : decode prog_14_method_20_code 80 = .ok (.aload_n 0, 1) := by decide +kernel
theorem d_M_read_81 : decode prog_14_method_20_code 81 = .ok (.aload_n 0, 1) := by decide +kernel
theorem d_M_read_82 : decode prog_14_method_20_code 82 = .ok (.getfield 245, 3) := by decide +kernel
theorem d_M_read_85 : decode prog_14_method_20_code 85 = .ok (.invokevirtual 161, 3) := by decide +kernel
theorem d_M_read_88 : decode prog_14_method_20_code 88 = .ok (.aload_n 0, 1) := by decide +kernel
theorem d_M_read_89 : decode prog_14_method_20_code 89 = .ok (.sipush 130, 3) := by decide +kernel
theorem d_M_read_92 : decode prog_14_method_20_code 92 = .ok (.aload_n 0, 1) := by decide +kernel
theorem d_M_read_93 : decode prog_14_method_20_code 93 = .ok (.getfield 245, 3) := by decide +kernel
theorem d_M_read_96 : decode prog_14_method_20_code 96 = .ok (.imul, 1) := by decide +kernel
theorem d_M_read_97 : decode prog_14_method_20_code 97 = .ok (.putfield 251, 3) := by decide +kernel
theorem d_M_read_100 : decode prog_14_method_20_code 100 = .ok (.aload_n 0, 1) := by decide +kernel
theorem d_M_read_101 : decode prog_14_method_20_code 101 = .ok (.sipush 420, 3) := by decide +kernel
theorem d_M_read_104 : decode prog_14_method_20_code 104 = .ok (.aload_n 0, 1) := by decide +kernel
theorem d_M_read_105 : decode prog_14_method_20_code 105 = .ok (.getfield 245, 3) := by decide +kernel
theorem d_M_read_108 : decode prog_14_method_20_code 108 = .ok (.imul, 1) := by decide +kernel
theorem d_M_read_109 : decode prog_14_method_20_code 109 = .ok (.putfield 254, 3) := by decide +kernel
theorem d_M_read_112 : decode prog_14_method_20_code 112 = .ok (.aload_n 0, 1) := by decide +kernel
theorem d_M_read_113 : decode prog_14_method_20_code 113 = .ok (.getfield 212, 3) := by decide +kernel
theorem d_M_read_116 : decode prog_14_method_20_code 116 = .ok (.ifCond .ne 18, 3) := by decide +kernel
theorem d_M_read_119 : decode prog_14_method_20_code 119 = .ok (.aload_n 0, 1) := by decide +kernel
theorem d_M_read_120 : decode prog_14_method_20_code 120 = .ok (.iconst 0, 1) := by decide +kernel
theorem d_M_read_121 : decode prog_14_method_20_code 121 = .ok (.invokevirtual 230, 3) := by decide +kernel
theorem d_M_read_124 : decode prog_14_method_20_code 124 = .ok (.ifCond .ne 10, 3) := by decide +kernel
theorem d_M_read_127 : decode prog_14_method_20_code 127 = .ok (.aload_n 0, 1) := by decide +kernel
theorem d_M_read_128 : decode prog_14_method_20_code 128 = .ok (.invokevirtual 257, 3) := by decide +kernel
theorem d_M_read_131 : decode prog_14_method_20_code 131 = .ok (.goto (-19), 3) := by decide +kernel
theorem d_M_read_134 : decode prog_14_method_20_code 134 = .ok (.aload_n 0, 1) := by decide +kernel
theorem d_M_read_135 : decode prog_14_method_20_code 135 = .ok (.aload_n 0, 1) := by decide +kernel
theorem d_M_read_136 : decode prog_14_method_20_code 136 = .ok (.getfield 212, 3) := by decide +kernel
theorem d_M_read_139 : decode prog_14_method_20_code 139 = .ok (.ifCond .le 10, 3) := by decide +kernel
theorem d_M_read_142 : decode prog_14_method_20_code 142 = .ok (.aload_n 0, 1) := by decide +kernel
theorem d_M_read_143 : decode prog_14_method_20_code 143 = .ok (.getfield 218, 3) := by decide +kernel
theorem d_M_read_146 : decode prog_14_method_20_code 146 = .ok (.goto 18, 3) := by decide +kernel
theorem d_M_read_149 : decode prog_14_method_20_code 149 = .ok (.aload_n 0, 1) := by decide +kernel
theorem d_M_read_150 : decode prog_14_method_20_code 150 = .ok (.getfield 221, 3) := by decide +kernel
theorem d_M_read_153 : decode prog_14_method_20_code 153 = .ok (.ifCond .le 10, 3) := by decide +kernel
theorem d_M_read_156 : decode prog_14_method_20_code 156 = .ok (.aload_n 0, 1) := by decide +kernel
theorem d_M_read_157 : decode prog_14_method_20_code 157 = .ok (.getfield 224, 3) := by decide +kernel
theorem d_M_read_160 : decode prog_14_method_20_code 160 = .ok (.goto 4, 3) := by decide +kernel
theorem d_M_read_163 : decode prog_14_method_20_code 163 = .ok (.iconst (-1), 1) := by decide +kernel
theorem d_M_read_164 : decode prog_14_method_20_code 164 = .ok (.putfield 37, 3) := by decide +kernel
theorem d_M_read_167 : decode prog_14_method_20_code 167 = .ok (.aload_n 0, 1) := by decide +kernel
theorem d_M_read_168 : decode prog_14_method_20_code 168 = .ok (.getfield 212, 3) := by decide +kernel
theorem d_M_read_171 : decode prog_14_method_20_code 171 = .ok (.ifCond .le 8, 3) := by decide +kernel
theorem d_M_read_174 : decode prog_14_method_20_code 174 = .ok (.aload_n 0, 1) := by decide +kernel
theorem d_M_read_175 : decode prog_14_method_20_code 175 = .ok (.getfield 212, 3) := by decide +kernel
theorem d_M_read_178 : decode prog_14_method_20_code 178 = .ok (.ireturn, 1) := by decide +kernel
theorem d_M_read_179 : decode prog_14_method_20_code 179 = .ok (.aload_n 0, 1) := by decide +kernel
theorem d_M_read_180 : decode prog_14_method_20_code 180 = .ok (.getfield 221, 3) := by decide +kernel
theorem d_M_read_183 : decode prog_14_method_20_code 183 = .ok (.ifCond .le 8, 3) := by decide +kernel
theorem d_M_read_186 : decode prog_14_method_20_code 186 = .ok (.aload_n 0, 1) := by decide +kernel
theorem d_M_read_187 : decode prog_14_method_20_code 187 = .ok (.getfield 221, 3) := by decide +kernel
theorem d_M_read_190 : decode prog_14_method_20_code 190 = .ok (.ireturn, 1) := by decide +kernel
theorem d_M_read_191 : decode prog_14_method_20_code 191 = .ok (.aload_n 0, 1) := by decide +kernel
theorem d_M_read_192 : decode prog_14_method_20_code 192 = .ok (.aload_n 0, 1) := by decide +kernel
theorem d_M_read_193 : decode prog_14_method_20_code 193 = .ok (.getfield 245, 3) := by decide +kernel
theorem d_M_read_196 : decode prog_14_method_20_code 196 = .ok (.putfield 242, 3) := by decide +kernel
theorem d_M_read_199 : decode prog_14_method_20_code 199 = .ok (.aload_n 0, 1) := by decide +kernel
theorem d_M_read_200 : decode prog_14_method_20_code 200 = .ok (.invokevirtual 169, 3) := by decide +kernel
theorem d_M_read_203 : decode prog_14_method_20_code 203 = .ok (.aload_n 0, 1) := by decide +kernel
theorem d_M_read_204 : decode prog_14_method_20_code 204 = .ok (.invokevirtual 172, 3) := by decide +kernel
theorem d_M_read_207 : decode prog_14_method_20_code 207 = .ok (.aload_n 0, 1) := by decide +kernel
theorem d_M_read_208 : decode prog_14_method_20_code 208 = .ok (.iconst 0, 1) := by decide +kernel
theorem d_M_read_209 : decode prog_14_method_20_code 209 = .ok (.putfield 260, 3) := by decide +kernel
theorem d_M_read_212 : decode prog_14_method_20_code 212 = .ok (.aload_n 0, 1) := by decide +kernel
theorem d_M_read_213 : decode prog_14_method_20_code 213 = .ok (.iconst 0, 1) := by decide +kernel
theorem d_M_read_214 : decode prog_14_method_20_code 214 = .ok (.putfield 263, 3) := by decide +kernel
theorem d_M_read_217 : decode prog_14_method_20_code 217 = .ok (.iconst 0, 1) := by decide +kernel
theorem d_M_read_218 : decode prog_14_method_20_code 218 = .ok (.istore_n 1, 1) := by decide +kernel
theorem d_M_read_219 : decode prog_14_method_20_code 219 = .ok (.iload_n 1, 1) := by decide +kernel
theorem d_M_read_220 : decode prog_14_method_20_code 220 = .ok (.iconst 3, 1) := by decide +kernel
theorem d_M_read_221 : decode prog_14_method_20_code 221 = .ok (.if_icmp .ge 16, 3) := by decide +kernel
theorem d_M_read_224 : decode prog_14_method_20_code 224 = .ok (.aload_n 0, 1) := by decide +kernel
theorem d_M_read_225 : decode prog_14_method_20_code 225 = .ok (.getfield 155, 3) := by decide +kernel
theorem d_M_read_228 : decode prog_14_method_20_code 228 = .ok (.iload_n 1, 1) := by decide +kernel
theorem d_M_read_229 : decode prog_14_method_20_code 229 = .ok (.iconst 0, 1) := by decide +kernel
theorem d_M_read_230 : decode prog_14_method_20_code 230 = .ok (.bastore, 1) := by decide +kernel
theorem d_M_read_231 : decode prog_14_method_20_code 231 = .ok (.iinc 1 1, 3) := by decide +kernel
theorem d_M_read_234 : decode prog_14_method_20_code 234 = .ok (.goto (-15), 3) := by decide +kernel
theorem d_M_read_237 : decode prog_14_method_20_code 237 = .ok (.iconst 0, 1) := by decide +kernel
theorem d_M_read_238 : decode prog_14_method_20_code 238 = .ok (.ireturn, 1) := by decide +kernel
noncomputable def Lc_M_read_1 : Xp Bool := o2 (fun x y => decide (x < y)) (vI 1) (gI 12 4 (vR 0))
noncomputable def Lb_M_read_1 : Sm := sAst 1 (gR 12 3 (vR 0)) (vI 1) (aI 1 (gR 12 1 (vR 0)) (vI 1))
noncomputable def Lu_M_read_1 : Sm := sInc 1 (ii 1)
noncomputable def Lc_M_read_2 : Xp Bool := cAnd (o1 (fun x => decide (x = 0)) (gI 12 13 (vR 0))) (cNot (o1 (fun x => decide (x ≠ 0)) (cI (mV 12 D_M_is) [asV Value.ref (vR 0), asV Value.int (kI (ii 0))])))
noncomputable def Lb_M_read_2 : Sm := sCall (mV 12 D_M_tellOne) [asV Value.ref (vR 0)]
noncomputable def Lu_M_read_2 : Sm := sSkip
noncomputable def Lc_M_read_3 : Xp Bool := o2 (fun x y => decide (x < y)) (vI 1) (kI (ii 3))
noncomputable def Lb_M_read_3 : Sm := sAst 3 (gR 12 71 (vR 0)) (vI 1) (kI (ii 0))
noncomputable def Lu_M_read_3 : Sm := sInc 1 (ii 1)
noncomputable def F_M_read : Sm := sSeq (sPut 12 4 (vR 0) (asV Value.int (gI 12 2 (vR 0)))) (sSeq (sBlk 1 (sSeq (sDecl (asV Value.int (kI (ii 0)))) (sWh (Lc_M_read_1) (Lb_M_read_1) Lu_M_read_1))) (sSeq (sPut 12 2 (vR 0) (asV Value.int (kI (ii 0)))) (sSeq (sCall (mV 12 D_M_cut) [asV Value.ref (vR 0)]) (sSeq (sPut 12 11 (vR 0) (asV Value.int (kI (ii 0)))) (sSeq (sPut 12 12 (vR 0) (asV Value.int (kI (ii 0)))) (sSeq (sPut 12 13 (vR 0) (asV Value.int (kI (ii 0)))) (sSeq (sPut 12 15 (vR 0) (asV Value.int (kI (ii 0)))) (sSeq (sPut 12 19 (vR 0) (asV Value.int (o2 (fun x y => x - y) (kI (ii 1)) (gI 12 18 (vR 0))))) (sSeq (sPut 12 20 (vR 0) (asV Value.int (kI (ii 0)))) (sSeq (sCall (mV 12 D_M_plain) [asV Value.ref (vR 0), asV Value.int (gI 12 19 (vR 0))]) (sSeq (sPut 12 33 (vR 0) (asV Value.int (o2 (fun x y => x * y) (kI (ii 130)) (gI 12 19 (vR 0))))) (sSeq (sPut 12 39 (vR 0) (asV Value.int (o2 (fun x y => x * y) (kI (ii 420)) (gI 12 19 (vR 0))))) (sSeq (sWh (Lc_M_read_2) (Lb_M_read_2) Lu_M_read_2) (sSeq (sPut 12 17 (vR 0) (asV Value.int (iX (o1 (fun x => decide (x > 0)) (gI 12 13 (vR 0))) (gI 12 14 (vR 0)) (iX (o1 (fun x => decide (x > 0)) (gI 12 15 (vR 0))) (gI 12 16 (vR 0)) (kI (ii (-1))))))) (sSeq (sIf (o1 (fun x => decide (x > 0)) (gI 12 13 (vR 0))) (sRet (asV Value.int (gI 12 13 (vR 0)))) (sSkip)) (sSeq (sIf (o1 (fun x => decide (x > 0)) (gI 12 15 (vR 0))) (sRet (asV Value.int (gI 12 15 (vR 0)))) (sSkip)) (sSeq (sPut 12 18 (vR 0) (asV Value.int (gI 12 19 (vR 0)))) (sSeq (sCall (mV 12 D_M_begins) [asV Value.ref (vR 0)]) (sSeq (sCall (mV 12 D_M_keepsRow) [asV Value.ref (vR 0)]) (sSeq (sPut 12 57 (vR 0) (asV Value.int (kI (ii 0)))) (sSeq (sPut 12 67 (vR 0) (asV Value.int (kI (ii 0)))) (sSeq (sBlk 1 (sSeq (sDecl (asV Value.int (kI (ii 0)))) (sWh (Lc_M_read_3) (Lb_M_read_3) Lu_M_read_3))) (sRet (asV Value.int (kI (ii 0))))))))))))))))))))))))))
theorem mf_M_read : Mf y_M_read prog_14_method_20_code 2 (some .int) 0 := ⟨tw_1595, tw_134, by decide +kernel⟩
noncomputable def D_M_read : Dn := runS [1] F_M_read
theorem ok_M_read : MOK y_M_read prog_14_method_20_code 2 (some .int) 7 0 0 D_M_read := MOK.of (by decide) (by decide) (show SO Y_M_read [(0, 1)] [(0, 1)] 0 239 (([], 0), ([], 0)) F_M_read from
  (s_seq (sl1 := [(0, 1)]) (p1 := 8) (s_put (k0 := 4) (p1 := 1) (p2 := 5) cf_12 (e_aload_n (k0 := 0) d_M_read_0 rfl rfl) (e_gI (k0 := 2) (p1 := 2) cf_12 (e_aload_n (k0 := 0) d_M_read_1 rfl rfl) (by decide) tw_1362 d_M_read_2) (by decide) fk_i tw_1364 (Or.inl rfl) d_M_read_5) (s_seq (sl1 := [(0, 1)]) (p1 := 36) (s_blk (sl1 := [(0, 1), (1, 1)]) (s_seq (sl1 := [(0, 1), (1, 1)]) (p1 := 10) (s_decl (p1 := 9) (e_iconst d_M_read_8 (by decide)) (t_istore_n d_M_read_9 rfl (by decide)) rfl) (s_for (pt := 18) (pu := 30) (pf := 36) (pg := 0) (c_icmp_geF (p1 := 11) (p2 := 15) (tg := 36) (e_iload_n (k0 := 1) d_M_read_10 rfl rfl) (e_gI (k0 := 4) (p1 := 12) cf_12 (e_aload_n (k0 := 0) d_M_read_11 rfl rfl) (by decide) tw_1364 d_M_read_12) d_M_read_15 rfl) (s_ast (p1 := 22) (p2 := 23) (p3 := 29) (e_gR (k0 := 3) (p1 := 19) cf_12 (e_aload_n (k0 := 0) d_M_read_18 rfl rfl) (by decide) tw_1363 d_M_read_19) (e_iload_n (k0 := 1) d_M_read_22 rfl rfl) (e_bald (p1 := 27) (p2 := 28) (e_gR (k0 := 1) (p1 := 24) cf_12 (e_aload_n (k0 := 0) d_M_read_23 rfl rfl) (by decide) tw_1361 d_M_read_24) (e_iload_n (k0 := 1) d_M_read_27 rfl rfl) d_M_read_28) (as_b d_M_read_29)) (s_goto (p1 := 33) (s_inc (k0 := 1) d_M_read_30 rfl rfl (Nat.le_of_ble_eq_true rfl) rfl) d_M_read_33 rfl))) rfl) (s_seq (sl1 := [(0, 1)]) (p1 := 41) (s_put (k0 := 2) (p1 := 37) (p2 := 38) cf_12 (e_aload_n (k0 := 0) d_M_read_36 rfl rfl) (e_iconst d_M_read_37 (by decide)) (by decide) fk_i tw_1362 (Or.inl rfl) d_M_read_38) (s_seq (sl1 := [(0, 1)]) (p1 := 45) (s_call (p1 := 42) (a_cons (ι := Value.ref) (k0 := 1) (p1 := 42) (fun _ => rfl) (e_aload_n (k0 := 0) d_M_read_41 rfl rfl) a_nil) (k_virt ok_M_cut mf_M_cut ⟨tw_1598, tw_50⟩ rfl tw_1596 d_M_read_42 (by decide) (by decide) (by decide))) (s_seq (sl1 := [(0, 1)]) (p1 := 50) (s_put (k0 := 11) (p1 := 46) (p2 := 47) cf_12 (e_aload_n (k0 := 0) d_M_read_45 rfl rfl) (e_iconst d_M_read_46 (by decide)) (by decide) fk_i tw_1371 (Or.inl rfl) d_M_read_47) (s_seq (sl1 := [(0, 1)]) (p1 := 55) (s_put (k0 := 12) (p1 := 51) (p2 := 52) cf_12 (e_aload_n (k0 := 0) d_M_read_50 rfl rfl) (e_iconst d_M_read_51 (by decide)) (by decide) fk_i tw_1372 (Or.inl rfl) d_M_read_52) (s_seq (sl1 := [(0, 1)]) (p1 := 60) (s_put (k0 := 13) (p1 := 56) (p2 := 57) cf_12 (e_aload_n (k0 := 0) d_M_read_55 rfl rfl) (e_iconst d_M_read_56 (by decide)) (by decide) fk_i tw_1373 (Or.inl rfl) d_M_read_57) (s_seq (sl1 := [(0, 1)]) (p1 := 65) (s_put (k0 := 15) (p1 := 61) (p2 := 62) cf_12 (e_aload_n (k0 := 0) d_M_read_60 rfl rfl) (e_iconst d_M_read_61 (by decide)) (by decide) fk_i tw_1375 (Or.inl rfl) d_M_read_62) (s_seq (sl1 := [(0, 1)]) (p1 := 75) (s_put (k0 := 19) (p1 := 66) (p2 := 72) cf_12 (e_aload_n (k0 := 0) d_M_read_65 rfl rfl) (e_isub (p1 := 67) (p2 := 71) (e_iconst d_M_read_66 (by decide)) (e_gI (k0 := 18) (p1 := 68) cf_12 (e_aload_n (k0 := 0) d_M_read_67 rfl rfl) (by decide) tw_1378 d_M_read_68) d_M_read_71) (by decide) fk_i tw_1379 (Or.inl rfl) d_M_read_72) (s_seq (sl1 := [(0, 1)]) (p1 := 80) (s_put (k0 := 20) (p1 := 76) (p2 := 77) cf_12 (e_aload_n (k0 := 0) d_M_read_75 rfl rfl) (e_iconst d_M_read_76 (by decide)) (by decide) fk_i tw_1380 (Or.inl rfl) d_M_read_77) (s_seq (sl1 := [(0, 1)]) (p1 := 88) (s_call (p1 := 85) (a_cons (ι := Value.ref) (k0 := 1) (p1 := 81) (fun _ => rfl) (e_aload_n (k0 := 0) d_M_read_80 rfl rfl) (a_cons (ι := Value.int) (k0 := 1) (p1 := 85) (fun _ => rfl) (e_gI (k0 := 19) (p1 := 82) cf_12 (e_aload_n (k0 := 0) d_M_read_81 rfl rfl) (by decide) tw_1379 d_M_read_82) a_nil)) (k_virt ok_M_plain mf_M_plain ⟨tw_1344, tw_46⟩ rfl tw_1342 d_M_read_85 (by decide) (by decide) (by decide))) (s_seq (sl1 := [(0, 1)]) (p1 := 100) (s_put (k0 := 33) (p1 := 89) (p2 := 97) cf_12 (e_aload_n (k0 := 0) d_M_read_88 rfl rfl) (e_imul (p1 := 92) (p2 := 96) (e_sipush d_M_read_89 (by decide)) (e_gI (k0 := 19) (p1 := 93) cf_12 (e_aload_n (k0 := 0) d_M_read_92 rfl rfl) (by decide) tw_1379 d_M_read_93) d_M_read_96) (by decide) fk_i tw_1393 (Or.inl rfl) d_M_read_97) (s_seq (sl1 := [(0, 1)]) (p1 := 112) (s_put (k0 := 39) (p1 := 101) (p2 := 109) cf_12 (e_aload_n (k0 := 0) d_M_read_100 rfl rfl) (e_imul (p1 := 104) (p2 := 108) (e_sipush d_M_read_101 (by decide)) (e_gI (k0 := 19) (p1 := 105) cf_12 (e_aload_n (k0 := 0) d_M_read_104 rfl rfl) (by decide) tw_1379 d_M_read_105) d_M_read_108) (by decide) fk_i tw_1399 (Or.inl rfl) d_M_read_109) (s_seq (sl1 := [(0, 1)]) (p1 := 134) (s_for (pt := 127) (pu := 112) (pf := 134) (pg := 0) (c_and (p1 := 119) (c_if_neF (p1 := 116) (tg := 134) (e_gI (k0 := 13) (p1 := 113) cf_12 (e_aload_n (k0 := 0) d_M_read_112 rfl rfl) (by decide) tw_1373 d_M_read_113) d_M_read_116 rfl) (c_not (c_if_neT (p1 := 124) (tg := 134) (e_cI (p1 := 121) (a_cons (ι := Value.ref) (k0 := 1) (p1 := 120) (fun _ => rfl) (e_aload_n (k0 := 0) d_M_read_119 rfl rfl) (a_cons (ι := Value.int) (k0 := 1) (p1 := 121) (fun _ => rfl) (e_iconst d_M_read_120 (by decide)) a_nil)) (k_virt ok_M_is mf_M_is ⟨tw_1620, tw_54⟩ rfl tw_1618 d_M_read_121 (by decide) (by decide) (by decide))) d_M_read_124 rfl))) (s_goto (p1 := 131) (s_call (p1 := 128) (a_cons (ι := Value.ref) (k0 := 1) (p1 := 128) (fun _ => rfl) (e_aload_n (k0 := 0) d_M_read_127 rfl rfl) a_nil) (k_virt ok_M_tellOne mf_M_tellOne ⟨tw_1624, tw_55⟩ rfl tw_1622 d_M_read_128 (by decide) (by decide) (by decide))) d_M_read_131 rfl) s_skip) (s_seq (sl1 := [(0, 1)]) (p1 := 167) (s_put (k0 := 17) (p1 := 135) (p2 := 164) cf_12 (e_aload_n (k0 := 0) d_M_read_134 rfl rfl) (e_ite (pt := 142) (p1 := 146) (pf := 149) (c_if_leF (p1 := 139) (tg := 149) (e_gI (k0 := 13) (p1 := 136) cf_12 (e_aload_n (k0 := 0) d_M_read_135 rfl rfl) (by decide) tw_1373 d_M_read_136) d_M_read_139 rfl) (e_gI (k0 := 14) (p1 := 143) cf_12 (e_aload_n (k0 := 0) d_M_read_142 rfl rfl) (by decide) tw_1374 d_M_read_143) d_M_read_146 rfl (e_ite (pt := 156) (p1 := 160) (pf := 163) (c_if_leF (p1 := 153) (tg := 163) (e_gI (k0 := 15) (p1 := 150) cf_12 (e_aload_n (k0 := 0) d_M_read_149 rfl rfl) (by decide) tw_1375 d_M_read_150) d_M_read_153 rfl) (e_gI (k0 := 16) (p1 := 157) cf_12 (e_aload_n (k0 := 0) d_M_read_156 rfl rfl) (by decide) tw_1376 d_M_read_157) d_M_read_160 rfl (e_iconst d_M_read_163 (by decide)))) (by decide) fk_i tw_1377 (Or.inl rfl) d_M_read_164) (s_seq (sl1 := [(0, 1)]) (p1 := 179) (s_if (pt := 174) (pf := 179) (c_if_leF (p1 := 171) (tg := 179) (e_gI (k0 := 13) (p1 := 168) cf_12 (e_aload_n (k0 := 0) d_M_read_167 rfl rfl) (by decide) tw_1373 d_M_read_168) d_M_read_171 rfl) (s_ret (p1 := 178) (e_gI (k0 := 13) (p1 := 175) cf_12 (e_aload_n (k0 := 0) d_M_read_174 rfl rfl) (by decide) tw_1373 d_M_read_175) rfl d_M_read_178) s_skip) (s_seq (sl1 := [(0, 1)]) (p1 := 191) (s_if (pt := 186) (pf := 191) (c_if_leF (p1 := 183) (tg := 191) (e_gI (k0 := 15) (p1 := 180) cf_12 (e_aload_n (k0 := 0) d_M_read_179 rfl rfl) (by decide) tw_1375 d_M_read_180) d_M_read_183 rfl) (s_ret (p1 := 190) (e_gI (k0 := 15) (p1 := 187) cf_12 (e_aload_n (k0 := 0) d_M_read_186 rfl rfl) (by decide) tw_1375 d_M_read_187) rfl d_M_read_190) s_skip) (s_seq (sl1 := [(0, 1)]) (p1 := 199) (s_put (k0 := 18) (p1 := 192) (p2 := 196) cf_12 (e_aload_n (k0 := 0) d_M_read_191 rfl rfl) (e_gI (k0 := 19) (p1 := 193) cf_12 (e_aload_n (k0 := 0) d_M_read_192 rfl rfl) (by decide) tw_1379 d_M_read_193) (by decide) fk_i tw_1378 (Or.inl rfl) d_M_read_196) (s_seq (sl1 := [(0, 1)]) (p1 := 203) (s_call (p1 := 200) (a_cons (ι := Value.ref) (k0 := 1) (p1 := 200) (fun _ => rfl) (e_aload_n (k0 := 0) d_M_read_199 rfl rfl) a_nil) (k_virt ok_M_begins mf_M_begins ⟨tw_1355, tw_47⟩ rfl tw_1353 d_M_read_200 (by decide) (by decide) (by decide))) (s_seq (sl1 := [(0, 1)]) (p1 := 207) (s_call (p1 := 204) (a_cons (ι := Value.ref) (k0 := 1) (p1 := 204) (fun _ => rfl) (e_aload_n (k0 := 0) d_M_read_203 rfl rfl) a_nil) (k_virt ok_M_keepsRow mf_M_keepsRow ⟨tw_1359, tw_48⟩ rfl tw_1357 d_M_read_204 (by decide) (by decide) (by decide))) (s_seq (sl1 := [(0, 1)]) (p1 := 212) (s_put (k0 := 57) (p1 := 208) (p2 := 209) cf_12 (e_aload_n (k0 := 0) d_M_read_207 rfl rfl) (e_iconst d_M_read_208 (by decide)) (by decide) fk_i tw_1417 (Or.inl rfl) d_M_read_209) (s_seq (sl1 := [(0, 1)]) (p1 := 217) (s_put (k0 := 67) (p1 := 213) (p2 := 214) cf_12 (e_aload_n (k0 := 0) d_M_read_212 rfl rfl) (e_iconst d_M_read_213 (by decide)) (by decide) fk_i tw_1427 (Or.inl rfl) d_M_read_214) (s_seq (sl1 := [(0, 1)]) (p1 := 237) (s_blk (sl1 := [(0, 1), (1, 1)]) (s_seq (sl1 := [(0, 1), (1, 1)]) (p1 := 219) (s_decl (p1 := 218) (e_iconst d_M_read_217 (by decide)) (t_istore_n d_M_read_218 rfl (by decide)) rfl) (s_for (pt := 224) (pu := 231) (pf := 237) (pg := 0) (c_icmp_geF (p1 := 220) (p2 := 221) (tg := 237) (e_iload_n (k0 := 1) d_M_read_219 rfl rfl) (e_iconst d_M_read_220 (by decide)) d_M_read_221 rfl) (s_ast (p1 := 228) (p2 := 229) (p3 := 230) (e_gR (k0 := 71) (p1 := 225) cf_12 (e_aload_n (k0 := 0) d_M_read_224 rfl rfl) (by decide) tw_1431 d_M_read_225) (e_iload_n (k0 := 1) d_M_read_228 rfl rfl) (e_iconst d_M_read_229 (by decide)) (as_z d_M_read_230)) (s_goto (p1 := 234) (s_inc (k0 := 1) d_M_read_231 rfl rfl (Nat.le_of_ble_eq_true rfl) rfl) d_M_read_234 rfl))) rfl) (s_ret (p1 := 238) (e_iconst d_M_read_237 (by decide)) rfl d_M_read_238)))))))))))))))))))))))))
/-! BlinkerCrossModel.place()I -/
abbrev y_M_place : MethodName := ⟨"BlinkerCrossModel", "place", "()I"⟩
abbrev Y_M_place : Yt := (prog_14_method_21_code, 1, "BlinkerCrossModel", 0, (some .int), "place")
theorem d_M_place_0 : decode prog_14_method_21_code 0 = .ok (.aload_n 0, 1) := by decide +kernel
theorem d_M_place_1 : decode prog_14_method_21_code 1 = .ok (.getfield 37, 3) := by decide +kernel
theorem d_M_place_4 : decode prog_14_method_21_code 4 = .ok (.ireturn, 1) := by decide +kernel
noncomputable def F_M_place : Sm := sRet (asV Value.int (gI 12 17 (vR 0)))
theorem mf_M_place : Mf y_M_place prog_14_method_21_code 1 (some .int) 0 := ⟨tw_1693, tw_134, by decide +kernel⟩
noncomputable def D_M_place : Dn := runS [1] F_M_place
theorem ok_M_place : MOK y_M_place prog_14_method_21_code 1 (some .int) 0 0 0 D_M_place := MOK.of (by decide) (by decide) (show SO Y_M_place [(0, 1)] [(0, 1)] 0 5 (([], 0), ([], 0)) F_M_place from
  (s_ret (p1 := 4) (e_gI (k0 := 17) (p1 := 1) cf_12 (e_aload_n (k0 := 0) d_M_place_0 rfl rfl) (by decide) tw_1377 d_M_place_1) rfl d_M_place_4))
/-! BlinkerCrossModel.termOf(II)I -/
abbrev y_M_termOf : MethodName := ⟨"BlinkerCrossModel", "termOf", "(II)I"⟩
abbrev Y_M_termOf : Yt := (prog_14_method_35_code, 8, "BlinkerCrossModel", 0, (some .int), "termOf")
theorem d_M_termOf_0 : decode prog_14_method_35_code 0 = .ok (.iconst 0, 1) := by decide +kernel
theorem d_M_termOf_1 : decode prog_14_method_35_code 1 = .ok (.istore_n 3, 1) := by decide +kernel
theorem d_M_termOf_2 : decode prog_14_method_35_code 2 = .ok (.iload_n 1, 1) := by decide +kernel
theorem d_M_termOf_3 : decode prog_14_method_35_code 3 = .ok (.istore 4, 2) := by decide +kernel
theorem d_M_termOf_5 : decode prog_14_method_35_code 5 = .ok (.iload 4, 2) := by decide +kernel
theorem d_M_termOf_7 : decode prog_14_method_35_code 7 = .ok (.iload_n 2, 1) := by decide +kernel
theorem d_M_termOf_8 : decode prog_14_method_35_code 8 = .ok (.if_icmp .ge 157, 3) := by decide +kernel
theorem d_M_termOf_11 : decode prog_14_method_35_code 11 = .ok (.aload_n 0, 1) := by decide +kernel
theorem d_M_termOf_12 : decode prog_14_method_35_code 12 = .ok (.getfield 92, 3) := by decide +kernel
theorem d_M_termOf_15 : decode prog_14_method_35_code 15 = .ok (.iload 4, 2) := by decide +kernel
theorem d_M_termOf_17 : decode prog_14_method_35_code 17 = .ok (.iaload, 1) := by decide +kernel
theorem d_M_termOf_18 : decode prog_14_method_35_code 18 = .ok (.istore 5, 2) := by decide +kernel
theorem d_M_termOf_20 : decode prog_14_method_35_code 20 = .ok (.iload 5, 2) := by decide +kernel
theorem d_M_termOf_22 : decode prog_14_method_35_code 22 = .ok (.iconst 2, 1) := by decide +kernel
theorem d_M_termOf_23 : decode prog_14_method_35_code 23 = .ok (.if_icmp .ge 42, 3) := by decide +kernel
theorem d_M_termOf_26 : decode prog_14_method_35_code 26 = .ok (.aload_n 0, 1) := by decide +kernel
theorem d_M_termOf_27 : decode prog_14_method_35_code 27 = .ok (.getfield 104, 3) := by decide +kernel
theorem d_M_termOf_30 : decode prog_14_method_35_code 30 = .ok (.iload_n 3, 1) := by decide +kernel
theorem d_M_termOf_31 : decode prog_14_method_35_code 31 = .ok (.iload 5, 2) := by decide +kernel
theorem d_M_termOf_33 : decode prog_14_method_35_code 33 = .ok (.ifCond .ne 13, 3) := by decide +kernel
theorem d_M_termOf_36 : decode prog_14_method_35_code 36 = .ok (.aload_n 0, 1) := by decide +kernel
theorem d_M_termOf_37 : decode prog_14_method_35_code 37 = .ok (.getfield 95, 3) := by decide +kernel
theorem d_M_termOf_40 : decode prog_14_method_35_code 40 = .ok (.iload 4, 2) := by decide +kernel
theorem d_M_termOf_42 : decode prog_14_method_35_code 42 = .ok (.iaload, 1) := by decide +kernel
theorem d_M_termOf_43 : decode prog_14_method_35_code 43 = .ok (.goto 15, 3) := by decide +kernel
theorem d_M_termOf_46 : decode prog_14_method_35_code 46 = .ok (.aload_n 0, 1) := by decide +kernel
theorem d_M_termOf_47 : decode prog_14_method_35_code 47 = .ok (.getfield 101, 3) := by decide +kernel
theorem d_M_termOf_50 : decode prog_14_method_35_code 50 = .ok (.aload_n 0, 1) := by decide +kernel
theorem d_M_termOf_51 : decode prog_14_method_35_code 51 = .ok (.getfield 95, 3) := by decide +kernel
theorem d_M_termOf_54 : decode prog_14_method_35_code 54 = .ok (.iload 4, 2) := by decide +kernel
theorem d_M_termOf_56 : decode prog_14_method_35_code 56 = .ok (.iaload, 1) := by decide +kernel
theorem d_M_termOf_57 : decode prog_14_method_35_code 57 = .ok (.iaload, 1) := by decide +kernel
theorem d_M_termOf_58 : decode prog_14_method_35_code 58 = .ok (.iastore, 1) := by decide +kernel
theorem d_M_termOf_59 : decode prog_14_method_35_code 59 = .ok (.iinc 3 1, 3) := by decide +kernel
theorem d_M_termOf_62 : decode prog_14_method_35_code 62 = .ok (.goto 97, 3) := by decide +kernel
theorem d_M_termOf_65 : decode prog_14_method_35_code 65 = .ok (.iinc 3 (-1), 3) := by decide +kernel
theorem d_M_termOf_68 : decode prog_14_method_35_code 68 = .ok (.aload_n 0, 1) := by decide +kernel
theorem d_M_termOf_69 : decode prog_14_method_35_code 69 = .ok (.getfield 104, 3) := by decide +kernel
theorem d_M_termOf_72 : decode prog_14_method_35_code 72 = .ok (.iload_n 3, 1) := by decide +kernel
theorem d_M_termOf_73 : decode prog_14_method_35_code 73 = .ok (.iconst 1, 1) := by decide +kernel
theorem d_M_termOf_74 : decode prog_14_method_35_code 74 = .ok (.isub, 1) := by decide +kernel
theorem d_M_termOf_75 : decode prog_14_method_35_code 75 = .ok (.iaload, 1) := by decide +kernel
theorem d_M_termOf_76 : decode prog_14_method_35_code 76 = .ok (.istore 6, 2) := by decide +kernel
theorem d_M_termOf_78 : decode prog_14_method_35_code 78 = .ok (.aload_n 0, 1) := by decide +kernel
theorem d_M_termOf_79 : decode prog_14_method_35_code 79 = .ok (.getfield 104, 3) := by decide +kernel
theorem d_M_termOf_82 : decode prog_14_method_35_code 82 = .ok (.iload_n 3, 1) := by decide +kernel
theorem d_M_termOf_83 : decode prog_14_method_35_code 83 = .ok (.iaload, 1) := by decide +kernel
theorem d_M_termOf_84 : decode prog_14_method_35_code 84 = .ok (.istore 7, 2) := by decide +kernel
theorem d_M_termOf_86 : decode prog_14_method_35_code 86 = .ok (.iload 5, 2) := by decide +kernel
theorem d_M_termOf_88 : decode prog_14_method_35_code 88 = .ok (.iconst 5, 1) := by decide +kernel
theorem d_M_termOf_89 : decode prog_14_method_35_code 89 = .ok (.if_icmp .ne 15, 3) := by decide +kernel
theorem d_M_termOf_92 : decode prog_14_method_35_code 92 = .ok (.iload 7, 2) := by decide +kernel
theorem d_M_termOf_94 : decode prog_14_method_35_code 94 = .ok (.ifCond .ne 10, 3) := by decide +kernel
theorem d_M_termOf_97 : decode prog_14_method_35_code 97 = .ok (.aload_n 0, 1) := by decide +kernel
theorem d_M_termOf_98 : decode prog_14_method_35_code 98 = .ok (.iconst 1, 1) := by decide +kernel
theorem d_M_termOf_99 : decode prog_14_method_35_code 99 = .ok (.putfield 315, 3) := by decide +kernel
theorem d_M_termOf_102 : decode prog_14_method_35_code 102 = .ok (.iconst 0, 1) := by decide +kernel
theorem d_M_termOf_103 : decode prog_14_method_35_code 103 = .ok (.ireturn, 1) := by decide +kernel
theorem d_M_termOf_104 : decode prog_14_method_35_code 104 = .ok (.aload_n 0, 1) := by decide +kernel
theorem d_M_termOf_105 : decode prog_14_method_35_code 105 = .ok (.getfield 104, 3) := by decide +kernel
theorem d_M_termOf_108 : decode prog_14_method_35_code 108 = .ok (.iload_n 3, 1) := by decide +kernel
theorem d_M_termOf_109 : decode prog_14_method_35_code 109 = .ok (.iconst 1, 1) := by decide +kernel
theorem d_M_termOf_110 : decode prog_14_method_35_code 110 = .ok (.isub, 1) := by decide +kernel
theorem d_M_termOf_111 : decode prog_14_method_35_code 111 = .ok (.iload 5, 2) := by decide +kernel
theorem d_M_termOf_113 : decode prog_14_method_35_code 113 = .ok (.iconst 2, 1) := by decide +kernel
theorem d_M_termOf_114 : decode prog_14_method_35_code 114 = .ok (.if_icmp .ne 11, 3) := by decide +kernel
theorem d_M_termOf_117 : decode prog_14_method_35_code 117 = .ok (.iload 6, 2) := by decide +kernel
theorem d_M_termOf_119 : decode prog_14_method_35_code 119 = .ok (.iload 7, 2) := by decide +kernel
theorem d_M_termOf_121 : decode prog_14_method_35_code 121 = .ok (.iadd, 1) := by decide +kernel
theorem d_M_termOf_122 : decode prog_14_method_35_code 122 = .ok (.goto 36, 3) := by decide +kernel
theorem d_M_termOf_125 : decode prog_14_method_35_code 125 = .ok (.iload 5, 2) := by decide +kernel
theorem d_M_termOf_127 : decode prog_14_method_35_code 127 = .ok (.iconst 3, 1) := by decide +kernel
theorem d_M_termOf_128 : decode prog_14_method_35_code 128 = .ok (.if_icmp .ne 11, 3) := by decide +kernel
theorem d_M_termOf_131 : decode prog_14_method_35_code 131 = .ok (.iload 6, 2) := by decide +kernel
theorem d_M_termOf_133 : decode prog_14_method_35_code 133 = .ok (.iload 7, 2) := by decide +kernel
theorem d_M_termOf_135 : decode prog_14_method_35_code 135 = .ok (.isub, 1) := by decide +kernel
theorem d_M_termOf_136 : decode prog_14_method_35_code 136 = .ok (.goto 22, 3) := by decide +kernel
theorem d_M_termOf_139 : decode prog_14_method_35_code 139 = .ok (.iload 5, 2) := by decide +kernel
theorem d_M_termOf_141 : decode prog_14_method_35_code 141 = .ok (.iconst 4, 1) := by decide +kernel
theorem d_M_termOf_142 : decode prog_14_method_35_code 142 = .ok (.if_icmp .ne 11, 3) := by decide +kernel
theorem d_M_termOf_145 : decode prog_14_method_35_code 145 = .ok (.iload 6, 2) := by decide +kernel
theorem d_M_termOf_147 : decode prog_14_method_35_code 147 = .ok (.iload 7, 2) := by decide +kernel
theorem d_M_termOf_149 : decode prog_14_method_35_code 149 = .ok (.imul, 1) := by decide +kernel
theorem d_M_termOf_150 : decode prog_14_method_35_code 150 = .ok (.goto 8, 3) := by decide +kernel
theorem d_M_termOf_153 : decode prog_14_method_35_code 153 = .ok (.iload 6, 2) := by decide +kernel
theorem d_M_termOf_155 : decode prog_14_method_35_code 155 = .ok (.iload 7, 2) := by decide +kernel
theorem d_M_termOf_157 : decode prog_14_method_35_code 157 = .ok (.idiv, 1) := by decide +kernel
theorem d_M_termOf_158 : decode prog_14_method_35_code 158 = .ok (.iastore, 1) := by decide +kernel
theorem d_M_termOf_159 : decode prog_14_method_35_code 159 = .ok (.iinc 4 1, 3) := by decide +kernel
theorem d_M_termOf_162 : decode prog_14_method_35_code 162 = .ok (.goto (-157), 3) := by decide +kernel
theorem d_M_termOf_165 : decode prog_14_method_35_code 165 = .ok (.aload_n 0, 1) := by decide +kernel
theorem d_M_termOf_166 : decode prog_14_method_35_code 166 = .ok (.getfield 104, 3) := by decide +kernel
theorem d_M_termOf_169 : decode prog_14_method_35_code 169 = .ok (.iconst 0, 1) := by decide +kernel
theorem d_M_termOf_170 : decode prog_14_method_35_code 170 = .ok (.iaload, 1) := by decide +kernel
theorem d_M_termOf_171 : decode prog_14_method_35_code 171 = .ok (.ireturn, 1) := by decide +kernel
noncomputable def Lc_M_termOf_1 : Xp Bool := o2 (fun x y => decide (x < y)) (vI 4) (vI 2)
noncomputable def Lb_M_termOf_1 : Sm := sBlk 5 (sSeq (sDecl (asV Value.int (aI 0 (gR 12 40 (vR 0)) (vI 4)))) (sSeq (sIf (o2 (fun x y => decide (x < y)) (vI 5) (kI (ii 2))) (sSeq (sAst 0 (gR 12 45 (vR 0)) (vI 3) (iX (o1 (fun x => decide (x = 0)) (vI 5)) (aI 0 (gR 12 41 (vR 0)) (vI 4)) (aI 0 (gR 12 44 (vR 0)) (aI 0 (gR 12 41 (vR 0)) (vI 4))))) (sSeq (sInc 3 (ii 1)) (sCnt 5))) (sSkip)) (sSeq (sInc 3 (ii (-1))) (sSeq (sDecl (asV Value.int (aI 0 (gR 12 45 (vR 0)) (o2 (fun x y => x - y) (vI 3) (kI (ii 1)))))) (sSeq (sDecl (asV Value.int (aI 0 (gR 12 45 (vR 0)) (vI 3)))) (sSeq (sIf (cAnd (o2 (fun x y => decide (x = y)) (vI 5) (kI (ii 5))) (o1 (fun x => decide (x = 0)) (vI 7))) (sSeq (sPutZ 12 46 (vR 0) (kI (ii 1))) (sRet (asV Value.int (kI (ii 0))))) (sSkip)) (sAst 0 (gR 12 45 (vR 0)) (o2 (fun x y => x - y) (vI 3) (kI (ii 1))) (iX (o2 (fun x y => decide (x = y)) (vI 5) (kI (ii 2))) (o2 (fun x y => x + y) (vI 6) (vI 7)) (iX (o2 (fun x y => decide (x = y)) (vI 5) (kI (ii 3))) (o2 (fun x y => x - y) (vI 6) (vI 7)) (iX (o2 (fun x y => decide (x = y)) (vI 5) (kI (ii 4))) (o2 (fun x y => x * y) (vI 6) (vI 7)) (oD (vI 6) (vI 7))))))))))))
noncomputable def Lu_M_termOf_1 : Sm := sInc 4 (ii 1)
noncomputable def F_M_termOf : Sm := sSeq (sDecl (asV Value.int (kI (ii 0)))) (sSeq (sBlk 4 (sSeq (sDecl (asV Value.int (vI 1))) (sWh (Lc_M_termOf_1) (Lb_M_termOf_1) Lu_M_termOf_1))) (sRet (asV Value.int (aI 0 (gR 12 45 (vR 0)) (kI (ii 0))))))
theorem mf_M_termOf : Mf y_M_termOf prog_14_method_35_code 8 (some .int) 2 := ⟨tw_1776, tw_134, by decide +kernel⟩
noncomputable def D_M_termOf : Dn := runS [1, 1, 1] F_M_termOf
theorem ok_M_termOf : MOK y_M_termOf prog_14_method_35_code 8 (some .int) 0 0 0 D_M_termOf := MOK.of (by decide) (by decide) (show SO Y_M_termOf [(0, 1), (1, 1), (2, 1)] [(0, 1), (1, 1), (2, 1), (3, 1)] 0 172 (([], 0), ([], 0)) F_M_termOf from
  (s_seq (sl1 := [(0, 1), (1, 1), (2, 1), (3, 1)]) (p1 := 2) (s_decl (p1 := 1) (e_iconst d_M_termOf_0 (by decide)) (t_istore_n d_M_termOf_1 rfl (by decide)) rfl) (s_seq (sl1 := [(0, 1), (1, 1), (2, 1), (3, 1)]) (p1 := 165) (s_blk (sl1 := [(0, 1), (1, 1), (2, 1), (3, 1), (4, 1)]) (s_seq (sl1 := [(0, 1), (1, 1), (2, 1), (3, 1), (4, 1)]) (p1 := 5) (s_decl (p1 := 3) (e_iload_n (k0 := 1) d_M_termOf_2 rfl rfl) (t_istore d_M_termOf_3 (by decide)) rfl) (s_for (pt := 11) (pu := 159) (pf := 165) (pg := 0) (c_icmp_geF (p1 := 7) (p2 := 8) (tg := 165) (e_iload (k0 := 4) d_M_termOf_5 rfl) (e_iload_n (k0 := 2) d_M_termOf_7 rfl rfl) d_M_termOf_8 rfl) (s_blk (sl1 := [(0, 1), (1, 1), (2, 1), (3, 1), (4, 1), (5, 1), (6, 1), (7, 1)]) (s_seq (sl1 := [(0, 1), (1, 1), (2, 1), (3, 1), (4, 1), (5, 1)]) (p1 := 20) (s_decl (p1 := 18) (e_iald (p1 := 15) (p2 := 17) (e_gR (k0 := 40) (p1 := 12) cf_12 (e_aload_n (k0 := 0) d_M_termOf_11 rfl rfl) (by decide) tw_1400 d_M_termOf_12) (e_iload (k0 := 4) d_M_termOf_15 rfl) d_M_termOf_17) (t_istore d_M_termOf_18 (by decide)) rfl) (s_seq (sl1 := [(0, 1), (1, 1), (2, 1), (3, 1), (4, 1), (5, 1)]) (p1 := 65) (s_if (pt := 26) (pf := 65) (c_icmp_geF (p1 := 22) (p2 := 23) (tg := 65) (e_iload (k0 := 5) d_M_termOf_20 rfl) (e_iconst d_M_termOf_22 (by decide)) d_M_termOf_23 rfl) (s_seq (sl1 := [(0, 1), (1, 1), (2, 1), (3, 1), (4, 1), (5, 1)]) (p1 := 59) (s_ast (p1 := 30) (p2 := 31) (p3 := 58) (e_gR (k0 := 45) (p1 := 27) cf_12 (e_aload_n (k0 := 0) d_M_termOf_26 rfl rfl) (by decide) tw_1405 d_M_termOf_27) (e_iload_n (k0 := 3) d_M_termOf_30 rfl rfl) (e_ite (pt := 36) (p1 := 43) (pf := 46) (c_if_neF (p1 := 33) (tg := 46) (e_iload (k0 := 5) d_M_termOf_31 rfl) d_M_termOf_33 rfl) (e_iald (p1 := 40) (p2 := 42) (e_gR (k0 := 41) (p1 := 37) cf_12 (e_aload_n (k0 := 0) d_M_termOf_36 rfl rfl) (by decide) tw_1401 d_M_termOf_37) (e_iload (k0 := 4) d_M_termOf_40 rfl) d_M_termOf_42) d_M_termOf_43 rfl (e_iald (p1 := 50) (p2 := 57) (e_gR (k0 := 44) (p1 := 47) cf_12 (e_aload_n (k0 := 0) d_M_termOf_46 rfl rfl) (by decide) tw_1404 d_M_termOf_47) (e_iald (p1 := 54) (p2 := 56) (e_gR (k0 := 41) (p1 := 51) cf_12 (e_aload_n (k0 := 0) d_M_termOf_50 rfl rfl) (by decide) tw_1401 d_M_termOf_51) (e_iload (k0 := 4) d_M_termOf_54 rfl) d_M_termOf_56) d_M_termOf_57)) (as_i d_M_termOf_58)) (s_seq (sl1 := [(0, 1), (1, 1), (2, 1), (3, 1), (4, 1), (5, 1)]) (p1 := 159) (s_goto (p1 := 62) (s_inc (k0 := 3) d_M_termOf_59 rfl rfl (Nat.le_of_ble_eq_true rfl) rfl) d_M_termOf_62 rfl) (s_cnt rfl))) s_skip) (s_seq (sl1 := [(0, 1), (1, 1), (2, 1), (3, 1), (4, 1), (5, 1)]) (p1 := 68) (s_inc (k0 := 3) d_M_termOf_65 rfl rfl (Nat.le_of_ble_eq_true rfl) rfl) (s_seq (sl1 := [(0, 1), (1, 1), (2, 1), (3, 1), (4, 1), (5, 1), (6, 1)]) (p1 := 78) (s_decl (p1 := 76) (e_iald (p1 := 72) (p2 := 75) (e_gR (k0 := 45) (p1 := 69) cf_12 (e_aload_n (k0 := 0) d_M_termOf_68 rfl rfl) (by decide) tw_1405 d_M_termOf_69) (e_isub (p1 := 73) (p2 := 74) (e_iload_n (k0 := 3) d_M_termOf_72 rfl rfl) (e_iconst d_M_termOf_73 (by decide)) d_M_termOf_74) d_M_termOf_75) (t_istore d_M_termOf_76 (by decide)) rfl) (s_seq (sl1 := [(0, 1), (1, 1), (2, 1), (3, 1), (4, 1), (5, 1), (6, 1), (7, 1)]) (p1 := 86) (s_decl (p1 := 84) (e_iald (p1 := 82) (p2 := 83) (e_gR (k0 := 45) (p1 := 79) cf_12 (e_aload_n (k0 := 0) d_M_termOf_78 rfl rfl) (by decide) tw_1405 d_M_termOf_79) (e_iload_n (k0 := 3) d_M_termOf_82 rfl rfl) d_M_termOf_83) (t_istore d_M_termOf_84 (by decide)) rfl) (s_seq (sl1 := [(0, 1), (1, 1), (2, 1), (3, 1), (4, 1), (5, 1), (6, 1), (7, 1)]) (p1 := 104) (s_if (pt := 97) (pf := 104) (c_and (p1 := 92) (c_icmp_neF (p1 := 88) (p2 := 89) (tg := 104) (e_iload (k0 := 5) d_M_termOf_86 rfl) (e_iconst d_M_termOf_88 (by decide)) d_M_termOf_89 rfl) (c_if_neF (p1 := 94) (tg := 104) (e_iload (k0 := 7) d_M_termOf_92 rfl) d_M_termOf_94 rfl)) (s_seq (sl1 := [(0, 1), (1, 1), (2, 1), (3, 1), (4, 1), (5, 1), (6, 1), (7, 1)]) (p1 := 102) (s_putZ (k0 := 46) (p1 := 98) (p2 := 99) cf_12 (e_aload_n (k0 := 0) d_M_termOf_97 rfl rfl) (e_iconst d_M_termOf_98 (by decide)) (by decide) rfl tw_1406 rfl d_M_termOf_99) (s_ret (p1 := 103) (e_iconst d_M_termOf_102 (by decide)) rfl d_M_termOf_103)) s_skip) (s_ast (p1 := 108) (p2 := 111) (p3 := 158) (e_gR (k0 := 45) (p1 := 105) cf_12 (e_aload_n (k0 := 0) d_M_termOf_104 rfl rfl) (by decide) tw_1405 d_M_termOf_105) (e_isub (p1 := 109) (p2 := 110) (e_iload_n (k0 := 3) d_M_termOf_108 rfl rfl) (e_iconst d_M_termOf_109 (by decide)) d_M_termOf_110) (e_ite (pt := 117) (p1 := 122) (pf := 125) (c_icmp_neF (p1 := 113) (p2 := 114) (tg := 125) (e_iload (k0 := 5) d_M_termOf_111 rfl) (e_iconst d_M_termOf_113 (by decide)) d_M_termOf_114 rfl) (e_iadd (p1 := 119) (p2 := 121) (e_iload (k0 := 6) d_M_termOf_117 rfl) (e_iload (k0 := 7) d_M_termOf_119 rfl) d_M_termOf_121) d_M_termOf_122 rfl (e_ite (pt := 131) (p1 := 136) (pf := 139) (c_icmp_neF (p1 := 127) (p2 := 128) (tg := 139) (e_iload (k0 := 5) d_M_termOf_125 rfl) (e_iconst d_M_termOf_127 (by decide)) d_M_termOf_128 rfl) (e_isub (p1 := 133) (p2 := 135) (e_iload (k0 := 6) d_M_termOf_131 rfl) (e_iload (k0 := 7) d_M_termOf_133 rfl) d_M_termOf_135) d_M_termOf_136 rfl (e_ite (pt := 145) (p1 := 150) (pf := 153) (c_icmp_neF (p1 := 141) (p2 := 142) (tg := 153) (e_iload (k0 := 5) d_M_termOf_139 rfl) (e_iconst d_M_termOf_141 (by decide)) d_M_termOf_142 rfl) (e_imul (p1 := 147) (p2 := 149) (e_iload (k0 := 6) d_M_termOf_145 rfl) (e_iload (k0 := 7) d_M_termOf_147 rfl) d_M_termOf_149) d_M_termOf_150 rfl (e_idiv (p1 := 155) (p2 := 157) (e_iload (k0 := 6) d_M_termOf_153 rfl) (e_iload (k0 := 7) d_M_termOf_155 rfl) d_M_termOf_157)))) (as_i d_M_termOf_158)))))))) rfl) (s_goto (p1 := 162) (s_inc (k0 := 4) d_M_termOf_159 rfl rfl (Nat.le_of_ble_eq_true rfl) rfl) d_M_termOf_162 rfl))) rfl) (s_ret (p1 := 171) (e_iald (p1 := 169) (p2 := 170) (e_gR (k0 := 45) (p1 := 166) cf_12 (e_aload_n (k0 := 0) d_M_termOf_165 rfl rfl) (by decide) tw_1405 d_M_termOf_166) (e_iconst d_M_termOf_169 (by decide)) d_M_termOf_170) rfl d_M_termOf_171))))
/-! BlinkerCrossModel.in(III)Z -/
abbrev y_M_in : MethodName := ⟨"BlinkerCrossModel", "in", "(III)Z"⟩
abbrev Y_M_in : Yt := (prog_14_method_36_code, 3, "BlinkerCrossModel", 0, (some .boolean), "in")
theorem d_M_in_0 : decode prog_14_method_36_code 0 = .ok (.iload_n 0, 1) := by decide +kernel
theorem d_M_in_1 : decode prog_14_method_36_code 1 = .ok (.iload_n 1, 1) := by decide +kernel
theorem d_M_in_2 : decode prog_14_method_36_code 2 = .ok (.if_icmp .lt 12, 3) := by decide +kernel
theorem d_M_in_5 : decode prog_14_method_36_code 5 = .ok (.iload_n 0, 1) := by decide +kernel
theorem d_M_in_6 : decode prog_14_method_36_code 6 = .ok (.iload_n 2, 1) := by decide +kernel
theorem d_M_in_7 : decode prog_14_method_36_code 7 = .ok (.if_icmp .gt 7, 3) := by decide +kernel
theorem d_M_in_10 : decode prog_14_method_36_code 10 = .ok (.iconst 1, 1) := by decide +kernel
theorem d_M_in_11 : decode prog_14_method_36_code 11 = .ok (.goto 4, 3) := by decide +kernel
theorem d_M_in_14 : decode prog_14_method_36_code 14 = .ok (.iconst 0, 1) := by decide +kernel
theorem d_M_in_15 : decode prog_14_method_36_code 15 = .ok (.ireturn, 1) := by decide +kernel
noncomputable def F_M_in : Sm := sRetZ (bX (cAnd (o2 (fun x y => decide (x ≥ y)) (vI 0) (vI 1)) (o2 (fun x y => decide (x ≤ y)) (vI 0) (vI 2))))
theorem mf_M_in : Mf y_M_in prog_14_method_36_code 3 (some .boolean) 3 := ⟨tw_1704, tw_134, by decide +kernel⟩
noncomputable def D_M_in : Dn := runS [1, 1, 1] F_M_in
theorem ok_M_in : MOK y_M_in prog_14_method_36_code 3 (some .boolean) 0 0 0 D_M_in := MOK.of (by decide) (by decide) (show SO Y_M_in [(0, 1), (1, 1), (2, 1)] [(0, 1), (1, 1), (2, 1)] 0 16 (([], 0), ([], 0)) F_M_in from
  (s_retZ (p1 := 15) (e_bool (pt := 10) (pf := 14) (c_and (p1 := 5) (c_icmp_ltF (p1 := 1) (p2 := 2) (tg := 14) (e_iload_n (k0 := 0) d_M_in_0 rfl rfl) (e_iload_n (k0 := 1) d_M_in_1 rfl rfl) d_M_in_2 rfl) (c_icmp_gtF (p1 := 6) (p2 := 7) (tg := 14) (e_iload_n (k0 := 0) d_M_in_5 rfl rfl) (e_iload_n (k0 := 2) d_M_in_6 rfl rfl) d_M_in_7 rfl)) d_M_in_10 d_M_in_11 rfl d_M_in_14 rfl) rfl d_M_in_15))
/-! BlinkerCrossModel.within(III)I -/
abbrev y_M_within : MethodName := ⟨"BlinkerCrossModel", "within", "(III)I"⟩
abbrev Y_M_within : Yt := (prog_14_method_37_code, 3, "BlinkerCrossModel", 0, (some .int), "within")
theorem d_M_within_0 : decode prog_14_method_37_code 0 = .ok (.iload_n 0, 1) := by decide +kernel
theorem d_M_within_1 : decode prog_14_method_37_code 1 = .ok (.iload_n 1, 1) := by decide +kernel
theorem d_M_within_2 : decode prog_14_method_37_code 2 = .ok (.if_icmp .ge 7, 3) := by decide +kernel
theorem d_M_within_5 : decode prog_14_method_37_code 5 = .ok (.iload_n 1, 1) := by decide +kernel
theorem d_M_within_6 : decode prog_14_method_37_code 6 = .ok (.goto 13, 3) := by decide +kernel
theorem d_M_within_9 : decode prog_14_method_37_code 9 = .ok (.iload_n 0, 1) := by decide +kernel
theorem d_M_within_10 : decode prog_14_method_37_code 10 = .ok (.iload_n 2, 1) := by decide +kernel
theorem d_M_within_11 : decode prog_14_method_37_code 11 = .ok (.if_icmp .le 7, 3) := by decide +kernel
theorem d_M_within_14 : decode prog_14_method_37_code 14 = .ok (.iload_n 2, 1) := by decide +kernel
theorem d_M_within_15 : decode prog_14_method_37_code 15 = .ok (.goto 4, 3) := by decide +kernel
theorem d_M_within_18 : decode prog_14_method_37_code 18 = .ok (.iload_n 0, 1) := by decide +kernel
theorem d_M_within_19 : decode prog_14_method_37_code 19 = .ok (.ireturn, 1) := by decide +kernel
noncomputable def F_M_within : Sm := sRet (asV Value.int (iX (o2 (fun x y => decide (x < y)) (vI 0) (vI 1)) (vI 1) (iX (o2 (fun x y => decide (x > y)) (vI 0) (vI 2)) (vI 2) (vI 0))))
theorem mf_M_within : Mf y_M_within prog_14_method_37_code 3 (some .int) 3 := ⟨tw_1779, tw_134, by decide +kernel⟩
noncomputable def D_M_within : Dn := runS [1, 1, 1] F_M_within
theorem ok_M_within : MOK y_M_within prog_14_method_37_code 3 (some .int) 0 0 0 D_M_within := MOK.of (by decide) (by decide) (show SO Y_M_within [(0, 1), (1, 1), (2, 1)] [(0, 1), (1, 1), (2, 1)] 0 20 (([], 0), ([], 0)) F_M_within from
  (s_ret (p1 := 19) (e_ite (pt := 5) (p1 := 6) (pf := 9) (c_icmp_geF (p1 := 1) (p2 := 2) (tg := 9) (e_iload_n (k0 := 0) d_M_within_0 rfl rfl) (e_iload_n (k0 := 1) d_M_within_1 rfl rfl) d_M_within_2 rfl) (e_iload_n (k0 := 1) d_M_within_5 rfl rfl) d_M_within_6 rfl (e_ite (pt := 14) (p1 := 15) (pf := 18) (c_icmp_leF (p1 := 10) (p2 := 11) (tg := 18) (e_iload_n (k0 := 0) d_M_within_9 rfl rfl) (e_iload_n (k0 := 2) d_M_within_10 rfl rfl) d_M_within_11 rfl) (e_iload_n (k0 := 2) d_M_within_14 rfl rfl) d_M_within_15 rfl (e_iload_n (k0 := 0) d_M_within_18 rfl rfl))) rfl d_M_within_19))
/-! BlinkerCrossModel.bits(I)I -/
abbrev y_M_bits : MethodName := ⟨"BlinkerCrossModel", "bits", "(I)I"⟩
abbrev Y_M_bits : Yt := (prog_14_method_38_code, 3, "BlinkerCrossModel", 0, (some .int), "bits")
theorem d_M_bits_0 : decode prog_14_method_38_code 0 = .ok (.iconst 0, 1) := by decide +kernel
theorem d_M_bits_1 : decode prog_14_method_38_code 1 = .ok (.istore_n 1, 1) := by decide +kernel
theorem d_M_bits_2 : decode prog_14_method_38_code 2 = .ok (.iconst 0, 1) := by decide +kernel
theorem d_M_bits_3 : decode prog_14_method_38_code 3 = .ok (.istore_n 2, 1) := by decide +kernel
theorem d_M_bits_4 : decode prog_14_method_38_code 4 = .ok (.iload_n 2, 1) := by decide +kernel
theorem d_M_bits_5 : decode prog_14_method_38_code 5 = .ok (.bipush 6, 2) := by decide +kernel
theorem d_M_bits_7 : decode prog_14_method_38_code 7 = .ok (.if_icmp .ge 17, 3) := by decide +kernel
theorem d_M_bits_10 : decode prog_14_method_38_code 10 = .ok (.iload_n 1, 1) := by decide +kernel
theorem d_M_bits_11 : decode prog_14_method_38_code 11 = .ok (.iload_n 0, 1) := by decide +kernel
theorem d_M_bits_12 : decode prog_14_method_38_code 12 = .ok (.iload_n 2, 1) := by decide +kernel
theorem d_M_bits_13 : decode prog_14_method_38_code 13 = .ok (.ishr, 1) := by decide +kernel
theorem d_M_bits_14 : decode prog_14_method_38_code 14 = .ok (.iconst 1, 1) := by decide +kernel
theorem d_M_bits_15 : decode prog_14_method_38_code 15 = .ok (.iand, 1) := by decide +kernel
theorem d_M_bits_16 : decode prog_14_method_38_code 16 = .ok (.iadd, 1) := by decide +kernel
theorem d_M_bits_17 : decode prog_14_method_38_code 17 = .ok (.istore_n 1, 1) := by decide +kernel
theorem d_M_bits_18 : decode prog_14_method_38_code 18 = .ok (.iinc 2 1, 3) := by decide +kernel
theorem d_M_bits_21 : decode prog_14_method_38_code 21 = .ok (.goto (-17), 3) := by decide +kernel
theorem d_M_bits_24 : decode prog_14_method_38_code 24 = .ok (.iload_n 1, 1) := by decide +kernel
theorem d_M_bits_25 : decode prog_14_method_38_code 25 = .ok (.ireturn, 1) := by decide +kernel
noncomputable def Lc_M_bits_1 : Xp Bool := o2 (fun x y => decide (x < y)) (vI 2) (kI (ii 6))
noncomputable def Lb_M_bits_1 : Sm := sSet 1 (asV Value.int (o2 (fun x y => x + y) (vI 1) (o2 (fun x y => x &&& y) (o2 (fun (x y : Int32) => x >>> (y &&& 31)) (vI 0) (vI 2)) (kI (ii 1)))))
noncomputable def Lu_M_bits_1 : Sm := sInc 2 (ii 1)
noncomputable def F_M_bits : Sm := sSeq (sDecl (asV Value.int (kI (ii 0)))) (sSeq (sBlk 2 (sSeq (sDecl (asV Value.int (kI (ii 0)))) (sWh (Lc_M_bits_1) (Lb_M_bits_1) Lu_M_bits_1))) (sRet (asV Value.int (vI 1))))
theorem mf_M_bits : Mf y_M_bits prog_14_method_38_code 3 (some .int) 1 := ⟨tw_2028, tw_134, by decide +kernel⟩
noncomputable def D_M_bits : Dn := runS [1] F_M_bits
theorem ok_M_bits : MOK y_M_bits prog_14_method_38_code 3 (some .int) 0 0 0 D_M_bits := MOK.of (by decide) (by decide) (show SO Y_M_bits [(0, 1)] [(0, 1), (1, 1)] 0 26 (([], 0), ([], 0)) F_M_bits from
  (s_seq (sl1 := [(0, 1), (1, 1)]) (p1 := 2) (s_decl (p1 := 1) (e_iconst d_M_bits_0 (by decide)) (t_istore_n d_M_bits_1 rfl (by decide)) rfl) (s_seq (sl1 := [(0, 1), (1, 1)]) (p1 := 24) (s_blk (sl1 := [(0, 1), (1, 1), (2, 1)]) (s_seq (sl1 := [(0, 1), (1, 1), (2, 1)]) (p1 := 4) (s_decl (p1 := 3) (e_iconst d_M_bits_2 (by decide)) (t_istore_n d_M_bits_3 rfl (by decide)) rfl) (s_for (pt := 10) (pu := 18) (pf := 24) (pg := 0) (c_icmp_geF (p1 := 5) (p2 := 7) (tg := 24) (e_iload_n (k0 := 2) d_M_bits_4 rfl rfl) (e_bipush d_M_bits_5 (by decide)) d_M_bits_7 rfl) (s_set (k0 := 1) (p1 := 17) (e_iadd (p1 := 11) (p2 := 16) (e_iload_n (k0 := 1) d_M_bits_10 rfl rfl) (e_iand (p1 := 14) (p2 := 15) (e_ishr (p1 := 12) (p2 := 13) (e_iload_n (k0 := 0) d_M_bits_11 rfl rfl) (e_iload_n (k0 := 2) d_M_bits_12 rfl rfl) d_M_bits_13) (e_iconst d_M_bits_14 (by decide)) d_M_bits_15) d_M_bits_16) (t_istore_n d_M_bits_17 rfl (by decide)) rfl rfl) (s_goto (p1 := 21) (s_inc (k0 := 2) d_M_bits_18 rfl rfl (Nat.le_of_ble_eq_true rfl) rfl) d_M_bits_21 rfl))) rfl) (s_ret (p1 := 25) (e_iload_n (k0 := 1) d_M_bits_24 rfl rfl) rfl d_M_bits_25))))
/-! BlinkerCrossModel.isRoad(I)Z -/
abbrev y_M_isRoad : MethodName := ⟨"BlinkerCrossModel", "isRoad", "(I)Z"⟩
abbrev Y_M_isRoad : Yt := (prog_14_method_39_code, 2, "BlinkerCrossModel", 1, (some .boolean), "isRoad")
theorem d_M_isRoad_0 : decode prog_14_method_39_code 0 = .ok (.iload_n 1, 1) := by decide +kernel
theorem d_M_isRoad_1 : decode prog_14_method_39_code 1 = .ok (.iconst 0, 1) := by decide +kernel
theorem d_M_isRoad_2 : decode prog_14_method_39_code 2 = .ok (.aload_n 0, 1) := by decide +kernel
theorem d_M_isRoad_3 : decode prog_14_method_39_code 3 = .ok (.getfield 46, 3) := by decide +kernel
theorem d_M_isRoad_6 : decode prog_14_method_39_code 6 = .ok (.aload_n 0, 1) := by decide +kernel
theorem d_M_isRoad_7 : decode prog_14_method_39_code 7 = .ok (.getfield 242, 3) := by decide +kernel
theorem d_M_isRoad_10 : decode prog_14_method_39_code 10 = .ok (.iaload, 1) := by decide +kernel
theorem d_M_isRoad_11 : decode prog_14_method_39_code 11 = .ok (.iconst 1, 1) := by decide +kernel
theorem d_M_isRoad_12 : decode prog_14_method_39_code 12 = .ok (.isub, 1) := by decide +kernel
theorem d_M_isRoad_13 : decode prog_14_method_39_code 13 = .ok (.invokestatic 319, 3) := by decide +kernel
theorem d_M_isRoad_16 : decode prog_14_method_39_code 16 = .ok (.ireturn, 1) := by decide +kernel
noncomputable def F_M_isRoad : Sm := sRetZ (cI (D_M_in) [asV Value.int (vI 1), asV Value.int (kI (ii 0)), asV Value.int (o2 (fun x y => x - y) (aI 0 (gR 12 23 (vR 0)) (gI 12 18 (vR 0))) (kI (ii 1)))])
theorem mf_M_isRoad : Mf y_M_isRoad prog_14_method_39_code 2 (some .boolean) 1 := ⟨tw_1701, tw_134, by decide +kernel⟩
noncomputable def D_M_isRoad : Dn := runS [1, 1] F_M_isRoad
theorem ok_M_isRoad : MOK y_M_isRoad prog_14_method_39_code 2 (some .boolean) 1 0 0 D_M_isRoad := MOK.of (by decide) (by decide) (show SO Y_M_isRoad [(0, 1), (1, 1)] [(0, 1), (1, 1)] 0 17 (([], 0), ([], 0)) F_M_isRoad from
  (s_retZ (p1 := 16) (e_cI (p1 := 13) (a_cons (ι := Value.int) (k0 := 1) (p1 := 1) (fun _ => rfl) (e_iload_n (k0 := 1) d_M_isRoad_0 rfl rfl) (a_cons (ι := Value.int) (k0 := 1) (p1 := 2) (fun _ => rfl) (e_iconst d_M_isRoad_1 (by decide)) (a_cons (ι := Value.int) (k0 := 1) (p1 := 13) (fun _ => rfl) (e_isub (p1 := 11) (p2 := 12) (e_iald (p1 := 6) (p2 := 10) (e_gR (k0 := 23) (p1 := 3) cf_12 (e_aload_n (k0 := 0) d_M_isRoad_2 rfl rfl) (by decide) tw_1383 d_M_isRoad_3) (e_gI (k0 := 18) (p1 := 7) cf_12 (e_aload_n (k0 := 0) d_M_isRoad_6 rfl rfl) (by decide) tw_1378 d_M_isRoad_7) d_M_isRoad_10) (e_iconst d_M_isRoad_11 (by decide)) d_M_isRoad_12) a_nil))) (k_stat ok_M_in mf_M_in tw_1703 tw_1702 d_M_isRoad_13 (by decide) (by decide) (by decide))) rfl d_M_isRoad_16))
/-! BlinkerCrossModel.isGoer(I)Z -/
abbrev y_M_isGoer : MethodName := ⟨"BlinkerCrossModel", "isGoer", "(I)Z"⟩
abbrev Y_M_isGoer : Yt := (prog_14_method_40_code, 2, "BlinkerCrossModel", 1, (some .boolean), "isGoer")
theorem d_M_isGoer_0 : decode prog_14_method_40_code 0 = .ok (.iload_n 1, 1) := by decide +kernel
theorem d_M_isGoer_1 : decode prog_14_method_40_code 1 = .ok (.iconst 0, 1) := by decide +kernel
theorem d_M_isGoer_2 : decode prog_14_method_40_code 2 = .ok (.aload_n 0, 1) := by decide +kernel
theorem d_M_isGoer_3 : decode prog_14_method_40_code 3 = .ok (.getfield 52, 3) := by decide +kernel
theorem d_M_isGoer_6 : decode prog_14_method_40_code 6 = .ok (.aload_n 0, 1) := by decide +kernel
theorem d_M_isGoer_7 : decode prog_14_method_40_code 7 = .ok (.getfield 242, 3) := by decide +kernel
theorem d_M_isGoer_10 : decode prog_14_method_40_code 10 = .ok (.iaload, 1) := by decide +kernel
theorem d_M_isGoer_11 : decode prog_14_method_40_code 11 = .ok (.iconst 1, 1) := by decide +kernel
theorem d_M_isGoer_12 : decode prog_14_method_40_code 12 = .ok (.isub, 1) := by decide +kernel
theorem d_M_isGoer_13 : decode prog_14_method_40_code 13 = .ok (.invokestatic 319, 3) := by decide +kernel
theorem d_M_isGoer_16 : decode prog_14_method_40_code 16 = .ok (.ireturn, 1) := by decide +kernel
noncomputable def F_M_isGoer : Sm := sRetZ (cI (D_M_in) [asV Value.int (vI 1), asV Value.int (kI (ii 0)), asV Value.int (o2 (fun x y => x - y) (aI 0 (gR 12 25 (vR 0)) (gI 12 18 (vR 0))) (kI (ii 1)))])
theorem mf_M_isGoer : Mf y_M_isGoer prog_14_method_40_code 2 (some .boolean) 1 := ⟨tw_1716, tw_134, by decide +kernel⟩
noncomputable def D_M_isGoer : Dn := runS [1, 1] F_M_isGoer
theorem ok_M_isGoer : MOK y_M_isGoer prog_14_method_40_code 2 (some .boolean) 1 0 0 D_M_isGoer := MOK.of (by decide) (by decide) (show SO Y_M_isGoer [(0, 1), (1, 1)] [(0, 1), (1, 1)] 0 17 (([], 0), ([], 0)) F_M_isGoer from
  (s_retZ (p1 := 16) (e_cI (p1 := 13) (a_cons (ι := Value.int) (k0 := 1) (p1 := 1) (fun _ => rfl) (e_iload_n (k0 := 1) d_M_isGoer_0 rfl rfl) (a_cons (ι := Value.int) (k0 := 1) (p1 := 2) (fun _ => rfl) (e_iconst d_M_isGoer_1 (by decide)) (a_cons (ι := Value.int) (k0 := 1) (p1 := 13) (fun _ => rfl) (e_isub (p1 := 11) (p2 := 12) (e_iald (p1 := 6) (p2 := 10) (e_gR (k0 := 25) (p1 := 3) cf_12 (e_aload_n (k0 := 0) d_M_isGoer_2 rfl rfl) (by decide) tw_1385 d_M_isGoer_3) (e_gI (k0 := 18) (p1 := 7) cf_12 (e_aload_n (k0 := 0) d_M_isGoer_6 rfl rfl) (by decide) tw_1378 d_M_isGoer_7) d_M_isGoer_10) (e_iconst d_M_isGoer_11 (by decide)) d_M_isGoer_12) a_nil))) (k_stat ok_M_in mf_M_in tw_1703 tw_1702 d_M_isGoer_13 (by decide) (by decide) (by decide))) rfl d_M_isGoer_16))
/-! BlinkerCrossModel.mixed(II)I -/
abbrev y_M_mixed : MethodName := ⟨"BlinkerCrossModel", "mixed", "(II)I"⟩
abbrev Y_M_mixed : Yt := (prog_14_method_43_code, 3, "BlinkerCrossModel", 0, (some .int), "mixed")
theorem d_M_mixed_0 : decode prog_14_method_43_code 0 = .ok (.iload_n 0, 1) := by decide +kernel
theorem d_M_mixed_1 : decode prog_14_method_43_code 1 = .ok (.iload_n 1, 1) := by decide +kernel
theorem d_M_mixed_2 : decode prog_14_method_43_code 2 = .ok (.ixor, 1) := by decide +kernel
theorem d_M_mixed_3 : decode prog_14_method_43_code 3 = .ok (.ldc_w 332, 3) := by decide +kernel
theorem d_M_mixed_6 : decode prog_14_method_43_code 6 = .ok (.imul, 1) := by decide +kernel
theorem d_M_mixed_7 : decode prog_14_method_43_code 7 = .ok (.sipush 12345, 3) := by decide +kernel
theorem d_M_mixed_10 : decode prog_14_method_43_code 10 = .ok (.iadd, 1) := by decide +kernel
theorem d_M_mixed_11 : decode prog_14_method_43_code 11 = .ok (.istore_n 2, 1) := by decide +kernel
theorem d_M_mixed_12 : decode prog_14_method_43_code 12 = .ok (.iload_n 2, 1) := by decide +kernel
theorem d_M_mixed_13 : decode prog_14_method_43_code 13 = .ok (.iload_n 2, 1) := by decide +kernel
theorem d_M_mixed_14 : decode prog_14_method_43_code 14 = .ok (.bipush 15, 2) := by decide +kernel
theorem d_M_mixed_16 : decode prog_14_method_43_code 16 = .ok (.iushr, 1) := by decide +kernel
theorem d_M_mixed_17 : decode prog_14_method_43_code 17 = .ok (.ixor, 1) := by decide +kernel
theorem d_M_mixed_18 : decode prog_14_method_43_code 18 = .ok (.ireturn, 1) := by decide +kernel
noncomputable def F_M_mixed : Sm := sSeq (sDecl (asV Value.int (o2 (fun x y => x + y) (o2 (fun x y => x * y) (o2 (fun x y => x ^^^ y) (vI 0) (vI 1)) (kI (ii 1103515245))) (kI (ii 12345))))) (sRet (asV Value.int (o2 (fun x y => x ^^^ y) (vI 2) (o2 (fun x y => (x.toUInt32 >>> (y.toUInt32 &&& Int32.toUInt32 31)).toInt32) (vI 2) (kI (ii 15))))))
theorem mf_M_mixed : Mf y_M_mixed prog_14_method_43_code 3 (some .int) 2 := ⟨tw_1862, tw_134, by decide +kernel⟩
noncomputable def D_M_mixed : Dn := runS [1, 1] F_M_mixed
theorem ok_M_mixed : MOK y_M_mixed prog_14_method_43_code 3 (some .int) 0 0 0 D_M_mixed := MOK.of (by decide) (by decide) (show SO Y_M_mixed [(0, 1), (1, 1)] [(0, 1), (1, 1), (2, 1)] 0 19 (([], 0), ([], 0)) F_M_mixed from
  (s_seq (sl1 := [(0, 1), (1, 1), (2, 1)]) (p1 := 12) (s_decl (p1 := 11) (e_iadd (p1 := 7) (p2 := 10) (e_imul (p1 := 3) (p2 := 6) (e_ixor (p1 := 1) (p2 := 2) (e_iload_n (k0 := 0) d_M_mixed_0 rfl rfl) (e_iload_n (k0 := 1) d_M_mixed_1 rfl rfl) d_M_mixed_2) (e_ldcw d_M_mixed_3 tw_1863) d_M_mixed_6) (e_sipush d_M_mixed_7 (by decide)) d_M_mixed_10) (t_istore_n d_M_mixed_11 rfl (by decide)) rfl) (s_ret (p1 := 18) (e_ixor (p1 := 13) (p2 := 17) (e_iload_n (k0 := 2) d_M_mixed_12 rfl rfl) (e_iushr (p1 := 14) (p2 := 16) (e_iload_n (k0 := 2) d_M_mixed_13 rfl rfl) (e_bipush d_M_mixed_14 (by decide)) d_M_mixed_16) d_M_mixed_17) rfl d_M_mixed_18)))
/-! BlinkerCrossModel.lotOf(I)I -/
abbrev y_M_lotOf : MethodName := ⟨"BlinkerCrossModel", "lotOf", "(I)I"⟩
abbrev Y_M_lotOf : Yt := (prog_14_method_44_code, 2, "BlinkerCrossModel", 1, (some .int), "lotOf")
theorem d_M_lotOf_0 : decode prog_14_method_44_code 0 = .ok (.aload_n 0, 1) := by decide +kernel
theorem d_M_lotOf_1 : decode prog_14_method_44_code 1 = .ok (.getfield 323, 3) := by decide +kernel
theorem d_M_lotOf_4 : decode prog_14_method_44_code 4 = .ok (.sipush 207, 3) := by decide +kernel
theorem d_M_lotOf_7 : decode prog_14_method_44_code 7 = .ok (.invokestatic 333, 3) := by decide +kernel
theorem d_M_lotOf_10 : decode prog_14_method_44_code 10 = .ok (.iload_n 1, 1) := by decide +kernel
theorem d_M_lotOf_11 : decode prog_14_method_44_code 11 = .ok (.invokestatic 333, 3) := by decide +kernel
theorem d_M_lotOf_14 : decode prog_14_method_44_code 14 = .ok (.iconst 1, 1) := by decide +kernel
theorem d_M_lotOf_15 : decode prog_14_method_44_code 15 = .ok (.iushr, 1) := by decide +kernel
theorem d_M_lotOf_16 : decode prog_14_method_44_code 16 = .ok (.bipush 100, 2) := by decide +kernel
theorem d_M_lotOf_18 : decode prog_14_method_44_code 18 = .ok (.irem, 1) := by decide +kernel
theorem d_M_lotOf_19 : decode prog_14_method_44_code 19 = .ok (.ireturn, 1) := by decide +kernel
noncomputable def F_M_lotOf : Sm := sRet (asV Value.int (oR (o2 (fun x y => (x.toUInt32 >>> (y.toUInt32 &&& Int32.toUInt32 31)).toInt32) (cI (D_M_mixed) [asV Value.int (cI (D_M_mixed) [asV Value.int (gI 12 49 (vR 0)), asV Value.int (kI (ii 207))]), asV Value.int (vI 1)]) (kI (ii 1))) (kI (ii 100))))
theorem mf_M_lotOf : Mf y_M_lotOf prog_14_method_44_code 2 (some .int) 1 := ⟨tw_1859, tw_134, by decide +kernel⟩
noncomputable def D_M_lotOf : Dn := runS [1, 1] F_M_lotOf
theorem ok_M_lotOf : MOK y_M_lotOf prog_14_method_44_code 2 (some .int) 1 0 0 D_M_lotOf := MOK.of (by decide) (by decide) (show SO Y_M_lotOf [(0, 1), (1, 1)] [(0, 1), (1, 1)] 0 20 (([], 0), ([], 0)) F_M_lotOf from
  (s_ret (p1 := 19) (e_irem (p1 := 16) (p2 := 18) (e_iushr (p1 := 14) (p2 := 15) (e_cI (p1 := 11) (a_cons (ι := Value.int) (k0 := 1) (p1 := 10) (fun _ => rfl) (e_cI (p1 := 7) (a_cons (ι := Value.int) (k0 := 1) (p1 := 4) (fun _ => rfl) (e_gI (k0 := 49) (p1 := 1) cf_12 (e_aload_n (k0 := 0) d_M_lotOf_0 rfl rfl) (by decide) tw_1409 d_M_lotOf_1) (a_cons (ι := Value.int) (k0 := 1) (p1 := 7) (fun _ => rfl) (e_sipush d_M_lotOf_4 (by decide)) a_nil)) (k_stat ok_M_mixed mf_M_mixed tw_1861 tw_1860 d_M_lotOf_7 (by decide) (by decide) (by decide))) (a_cons (ι := Value.int) (k0 := 1) (p1 := 11) (fun _ => rfl) (e_iload_n (k0 := 1) d_M_lotOf_10 rfl rfl) a_nil)) (k_stat ok_M_mixed mf_M_mixed tw_1861 tw_1860 d_M_lotOf_11 (by decide) (by decide) (by decide))) (e_iconst d_M_lotOf_14 (by decide)) d_M_lotOf_15) (e_bipush d_M_lotOf_16 (by decide)) d_M_lotOf_18) rfl d_M_lotOf_19))
/-! BlinkerCrossModel.wantAt(II)I -/
abbrev y_M_wantAt : MethodName := ⟨"BlinkerCrossModel", "wantAt", "(II)I"⟩
abbrev Y_M_wantAt : Yt := (prog_14_method_45_code, 3, "BlinkerCrossModel", 0, (some .int), "wantAt")
theorem d_M_wantAt_0 : decode prog_14_method_45_code 0 = .ok (.aload_n 0, 1) := by decide +kernel
theorem d_M_wantAt_1 : decode prog_14_method_45_code 1 = .ok (.getfield 110, 3) := by decide +kernel
theorem d_M_wantAt_4 : decode prog_14_method_45_code 4 = .ok (.bipush 25, 2) := by decide +kernel
theorem d_M_wantAt_6 : decode prog_14_method_45_code 6 = .ok (.bipush 6, 2) := by decide +kernel
theorem d_M_wantAt_8 : decode prog_14_method_45_code 8 = .ok (.iload_n 1, 1) := by decide +kernel
theorem d_M_wantAt_9 : decode prog_14_method_45_code 9 = .ok (.imul, 1) := by decide +kernel
theorem d_M_wantAt_10 : decode prog_14_method_45_code 10 = .ok (.iadd, 1) := by decide +kernel
theorem d_M_wantAt_11 : decode prog_14_method_45_code 11 = .ok (.iload_n 2, 1) := by decide +kernel
theorem d_M_wantAt_12 : decode prog_14_method_45_code 12 = .ok (.iadd, 1) := by decide +kernel
theorem d_M_wantAt_13 : decode prog_14_method_45_code 13 = .ok (.iaload, 1) := by decide +kernel
theorem d_M_wantAt_14 : decode prog_14_method_45_code 14 = .ok (.ireturn, 1) := by decide +kernel
noncomputable def F_M_wantAt : Sm := sRet (asV Value.int (aI 0 (gR 12 48 (vR 0)) (o2 (fun x y => x + y) (o2 (fun x y => x + y) (kI (ii 25)) (o2 (fun x y => x * y) (kI (ii 6)) (vI 1))) (vI 2))))
theorem mf_M_wantAt : Mf y_M_wantAt prog_14_method_45_code 3 (some .int) 2 := ⟨tw_1732, tw_134, by decide +kernel⟩
noncomputable def D_M_wantAt : Dn := runS [1, 1, 1] F_M_wantAt
theorem ok_M_wantAt : MOK y_M_wantAt prog_14_method_45_code 3 (some .int) 0 0 0 D_M_wantAt := MOK.of (by decide) (by decide) (show SO Y_M_wantAt [(0, 1), (1, 1), (2, 1)] [(0, 1), (1, 1), (2, 1)] 0 15 (([], 0), ([], 0)) F_M_wantAt from
  (s_ret (p1 := 14) (e_iald (p1 := 4) (p2 := 13) (e_gR (k0 := 48) (p1 := 1) cf_12 (e_aload_n (k0 := 0) d_M_wantAt_0 rfl rfl) (by decide) tw_1408 d_M_wantAt_1) (e_iadd (p1 := 11) (p2 := 12) (e_iadd (p1 := 6) (p2 := 10) (e_bipush d_M_wantAt_4 (by decide)) (e_imul (p1 := 8) (p2 := 9) (e_bipush d_M_wantAt_6 (by decide)) (e_iload_n (k0 := 1) d_M_wantAt_8 rfl rfl) d_M_wantAt_9) d_M_wantAt_10) (e_iload_n (k0 := 2) d_M_wantAt_11 rfl rfl) d_M_wantAt_12) d_M_wantAt_13) rfl d_M_wantAt_14))
/-! BlinkerCrossModel.seesMany(I)I -/
abbrev y_M_seesMany : MethodName := ⟨"BlinkerCrossModel", "seesMany", "(I)I"⟩
abbrev Y_M_seesMany : Yt := (prog_14_method_46_code, 2, "BlinkerCrossModel", 0, (some .int), "seesMany")
theorem d_M_seesMany_0 : decode prog_14_method_46_code 0 = .ok (.aload_n 0, 1) := by decide +kernel
theorem d_M_seesMany_1 : decode prog_14_method_46_code 1 = .ok (.getfield 110, 3) := by decide +kernel
theorem d_M_seesMany_4 : decode prog_14_method_46_code 4 = .ok (.iconst 5, 1) := by decide +kernel
theorem d_M_seesMany_5 : decode prog_14_method_46_code 5 = .ok (.iload_n 1, 1) := by decide +kernel
theorem d_M_seesMany_6 : decode prog_14_method_46_code 6 = .ok (.iadd, 1) := by decide +kernel
theorem d_M_seesMany_7 : decode prog_14_method_46_code 7 = .ok (.iaload, 1) := by decide +kernel
theorem d_M_seesMany_8 : decode prog_14_method_46_code 8 = .ok (.aload_n 0, 1) := by decide +kernel
theorem d_M_seesMany_9 : decode prog_14_method_46_code 9 = .ok (.getfield 46, 3) := by decide +kernel
theorem d_M_seesMany_12 : decode prog_14_method_46_code 12 = .ok (.aload_n 0, 1) := by decide +kernel
theorem d_M_seesMany_13 : decode prog_14_method_46_code 13 = .ok (.getfield 242, 3) := by decide +kernel
theorem d_M_seesMany_16 : decode prog_14_method_46_code 16 = .ok (.iaload, 1) := by decide +kernel
theorem d_M_seesMany_17 : decode prog_14_method_46_code 17 = .ok (.if_icmp .ge 14, 3) := by decide +kernel
theorem d_M_seesMany_20 : decode prog_14_method_46_code 20 = .ok (.aload_n 0, 1) := by decide +kernel
theorem d_M_seesMany_21 : decode prog_14_method_46_code 21 = .ok (.getfield 110, 3) := by decide +kernel
theorem d_M_seesMany_24 : decode prog_14_method_46_code 24 = .ok (.iconst 5, 1) := by decide +kernel
theorem d_M_seesMany_25 : decode prog_14_method_46_code 25 = .ok (.iload_n 1, 1) := by decide +kernel
theorem d_M_seesMany_26 : decode prog_14_method_46_code 26 = .ok (.iadd, 1) := by decide +kernel
theorem d_M_seesMany_27 : decode prog_14_method_46_code 27 = .ok (.iaload, 1) := by decide +kernel
theorem d_M_seesMany_28 : decode prog_14_method_46_code 28 = .ok (.goto 12, 3) := by decide +kernel
theorem d_M_seesMany_31 : decode prog_14_method_46_code 31 = .ok (.aload_n 0, 1) := by decide +kernel
theorem d_M_seesMany_32 : decode prog_14_method_46_code 32 = .ok (.getfield 46, 3) := by decide +kernel
theorem d_M_seesMany_35 : decode prog_14_method_46_code 35 = .ok (.aload_n 0, 1) := by decide +kernel
theorem d_M_seesMany_36 : decode prog_14_method_46_code 36 = .ok (.getfield 242, 3) := by decide +kernel
theorem d_M_seesMany_39 : decode prog_14_method_46_code 39 = .ok (.iaload, 1) := by decide +kernel
theorem d_M_seesMany_40 : decode prog_14_method_46_code 40 = .ok (.ireturn, 1) := by decide +kernel
noncomputable def F_M_seesMany : Sm := sRet (asV Value.int (iX (o2 (fun x y => decide (x < y)) (aI 0 (gR 12 48 (vR 0)) (o2 (fun x y => x + y) (kI (ii 5)) (vI 1))) (aI 0 (gR 12 23 (vR 0)) (gI 12 18 (vR 0)))) (aI 0 (gR 12 48 (vR 0)) (o2 (fun x y => x + y) (kI (ii 5)) (vI 1))) (aI 0 (gR 12 23 (vR 0)) (gI 12 18 (vR 0)))))
theorem mf_M_seesMany : Mf y_M_seesMany prog_14_method_46_code 2 (some .int) 1 := ⟨tw_1724, tw_134, by decide +kernel⟩
noncomputable def D_M_seesMany : Dn := runS [1, 1] F_M_seesMany
theorem ok_M_seesMany : MOK y_M_seesMany prog_14_method_46_code 2 (some .int) 0 0 0 D_M_seesMany := MOK.of (by decide) (by decide) (show SO Y_M_seesMany [(0, 1), (1, 1)] [(0, 1), (1, 1)] 0 41 (([], 0), ([], 0)) F_M_seesMany from
  (s_ret (p1 := 40) (e_ite (pt := 20) (p1 := 28) (pf := 31) (c_icmp_geF (p1 := 8) (p2 := 17) (tg := 31) (e_iald (p1 := 4) (p2 := 7) (e_gR (k0 := 48) (p1 := 1) cf_12 (e_aload_n (k0 := 0) d_M_seesMany_0 rfl rfl) (by decide) tw_1408 d_M_seesMany_1) (e_iadd (p1 := 5) (p2 := 6) (e_iconst d_M_seesMany_4 (by decide)) (e_iload_n (k0 := 1) d_M_seesMany_5 rfl rfl) d_M_seesMany_6) d_M_seesMany_7) (e_iald (p1 := 12) (p2 := 16) (e_gR (k0 := 23) (p1 := 9) cf_12 (e_aload_n (k0 := 0) d_M_seesMany_8 rfl rfl) (by decide) tw_1383 d_M_seesMany_9) (e_gI (k0 := 18) (p1 := 13) cf_12 (e_aload_n (k0 := 0) d_M_seesMany_12 rfl rfl) (by decide) tw_1378 d_M_seesMany_13) d_M_seesMany_16) d_M_seesMany_17 rfl) (e_iald (p1 := 24) (p2 := 27) (e_gR (k0 := 48) (p1 := 21) cf_12 (e_aload_n (k0 := 0) d_M_seesMany_20 rfl rfl) (by decide) tw_1408 d_M_seesMany_21) (e_iadd (p1 := 25) (p2 := 26) (e_iconst d_M_seesMany_24 (by decide)) (e_iload_n (k0 := 1) d_M_seesMany_25 rfl rfl) d_M_seesMany_26) d_M_seesMany_27) d_M_seesMany_28 rfl (e_iald (p1 := 35) (p2 := 39) (e_gR (k0 := 23) (p1 := 32) cf_12 (e_aload_n (k0 := 0) d_M_seesMany_31 rfl rfl) (by decide) tw_1383 d_M_seesMany_32) (e_gI (k0 := 18) (p1 := 36) cf_12 (e_aload_n (k0 := 0) d_M_seesMany_35 rfl rfl) (by decide) tw_1378 d_M_seesMany_36) d_M_seesMany_39)) rfl d_M_seesMany_40))
/-! BlinkerCrossModel.seenAt(II)I -/
abbrev y_M_seenAt : MethodName := ⟨"BlinkerCrossModel", "seenAt", "(II)I"⟩
abbrev Y_M_seenAt : Yt := (prog_14_method_47_code, 3, "BlinkerCrossModel", 0, (some .int), "seenAt")
theorem d_M_seenAt_0 : decode prog_14_method_47_code 0 = .ok (.aload_n 0, 1) := by decide +kernel
theorem d_M_seenAt_1 : decode prog_14_method_47_code 1 = .ok (.getfield 110, 3) := by decide +kernel
theorem d_M_seenAt_4 : decode prog_14_method_47_code 4 = .ok (.iload_n 1, 1) := by decide +kernel
theorem d_M_seenAt_5 : decode prog_14_method_47_code 5 = .ok (.iaload, 1) := by decide +kernel
theorem d_M_seenAt_6 : decode prog_14_method_47_code 6 = .ok (.iload_n 2, 1) := by decide +kernel
theorem d_M_seenAt_7 : decode prog_14_method_47_code 7 = .ok (.iadd, 1) := by decide +kernel
theorem d_M_seenAt_8 : decode prog_14_method_47_code 8 = .ok (.aload_n 0, 1) := by decide +kernel
theorem d_M_seenAt_9 : decode prog_14_method_47_code 9 = .ok (.getfield 46, 3) := by decide +kernel
theorem d_M_seenAt_12 : decode prog_14_method_47_code 12 = .ok (.aload_n 0, 1) := by decide +kernel
theorem d_M_seenAt_13 : decode prog_14_method_47_code 13 = .ok (.getfield 242, 3) := by decide +kernel
theorem d_M_seenAt_16 : decode prog_14_method_47_code 16 = .ok (.iaload, 1) := by decide +kernel
theorem d_M_seenAt_17 : decode prog_14_method_47_code 17 = .ok (.irem, 1) := by decide +kernel
theorem d_M_seenAt_18 : decode prog_14_method_47_code 18 = .ok (.ireturn, 1) := by decide +kernel
noncomputable def F_M_seenAt : Sm := sRet (asV Value.int (oR (o2 (fun x y => x + y) (aI 0 (gR 12 48 (vR 0)) (vI 1)) (vI 2)) (aI 0 (gR 12 23 (vR 0)) (gI 12 18 (vR 0)))))
theorem mf_M_seenAt : Mf y_M_seenAt prog_14_method_47_code 3 (some .int) 2 := ⟨tw_1728, tw_134, by decide +kernel⟩
noncomputable def D_M_seenAt : Dn := runS [1, 1, 1] F_M_seenAt
theorem ok_M_seenAt : MOK y_M_seenAt prog_14_method_47_code 3 (some .int) 0 0 0 D_M_seenAt := MOK.of (by decide) (by decide) (show SO Y_M_seenAt [(0, 1), (1, 1), (2, 1)] [(0, 1), (1, 1), (2, 1)] 0 19 (([], 0), ([], 0)) F_M_seenAt from
  (s_ret (p1 := 18) (e_irem (p1 := 8) (p2 := 17) (e_iadd (p1 := 6) (p2 := 7) (e_iald (p1 := 4) (p2 := 5) (e_gR (k0 := 48) (p1 := 1) cf_12 (e_aload_n (k0 := 0) d_M_seenAt_0 rfl rfl) (by decide) tw_1408 d_M_seenAt_1) (e_iload_n (k0 := 1) d_M_seenAt_4 rfl rfl) d_M_seenAt_5) (e_iload_n (k0 := 2) d_M_seenAt_6 rfl rfl) d_M_seenAt_7) (e_iald (p1 := 12) (p2 := 16) (e_gR (k0 := 23) (p1 := 9) cf_12 (e_aload_n (k0 := 0) d_M_seenAt_8 rfl rfl) (by decide) tw_1383 d_M_seenAt_9) (e_gI (k0 := 18) (p1 := 13) cf_12 (e_aload_n (k0 := 0) d_M_seenAt_12 rfl rfl) (by decide) tw_1378 d_M_seenAt_13) d_M_seenAt_16) d_M_seenAt_17) rfl d_M_seenAt_18))
/-! BlinkerCrossModel.seenBits(I)I -/
abbrev y_M_seenBits : MethodName := ⟨"BlinkerCrossModel", "seenBits", "(I)I"⟩
abbrev Y_M_seenBits : Yt := (prog_14_method_48_code, 4, "BlinkerCrossModel", 1, (some .int), "seenBits")
theorem d_M_seenBits_0 : decode prog_14_method_48_code 0 = .ok (.iconst 0, 1) := by decide +kernel
theorem d_M_seenBits_1 : decode prog_14_method_48_code 1 = .ok (.istore_n 2, 1) := by decide +kernel
theorem d_M_seenBits_2 : decode prog_14_method_48_code 2 = .ok (.iconst 0, 1) := by decide +kernel
theorem d_M_seenBits_3 : decode prog_14_method_48_code 3 = .ok (.istore_n 3, 1) := by decide +kernel
theorem d_M_seenBits_4 : decode prog_14_method_48_code 4 = .ok (.iload_n 3, 1) := by decide +kernel
theorem d_M_seenBits_5 : decode prog_14_method_48_code 5 = .ok (.aload_n 0, 1) := by decide +kernel
theorem d_M_seenBits_6 : decode prog_14_method_48_code 6 = .ok (.iload_n 1, 1) := by decide +kernel
theorem d_M_seenBits_7 : decode prog_14_method_48_code 7 = .ok (.invokevirtual 336, 3) := by decide +kernel
theorem d_M_seenBits_10 : decode prog_14_method_48_code 10 = .ok (.if_icmp .ge 20, 3) := by decide +kernel
theorem d_M_seenBits_13 : decode prog_14_method_48_code 13 = .ok (.iload_n 2, 1) := by decide +kernel
theorem d_M_seenBits_14 : decode prog_14_method_48_code 14 = .ok (.iconst 1, 1) := by decide +kernel
theorem d_M_seenBits_15 : decode prog_14_method_48_code 15 = .ok (.aload_n 0, 1) := by decide +kernel
theorem d_M_seenBits_16 : decode prog_14_method_48_code 16 = .ok (.iload_n 1, 1) := by decide +kernel
theorem d_M_seenBits_17 : decode prog_14_method_48_code 17 = .ok (.iload_n 3, 1) := by decide +kernel
theorem d_M_seenBits_18 : decode prog_14_method_48_code 18 = .ok (.invokevirtual 339, 3) := by decide +kernel
theorem d_M_seenBits_21 : decode prog_14_method_48_code 21 = .ok (.ishl, 1) := by decide +kernel
theorem d_M_seenBits_22 : decode prog_14_method_48_code 22 = .ok (.ior, 1) := by decide +kernel
theorem d_M_seenBits_23 : decode prog_14_method_48_code 23 = .ok (.istore_n 2, 1) := by decide +kernel
theorem d_M_seenBits_24 : decode prog_14_method_48_code 24 = .ok (.iinc 3 1, 3) := by decide +kernel
theorem d_M_seenBits_27 : decode prog_14_method_48_code 27 = .ok (.goto (-23), 3) := by decide +kernel
theorem d_M_seenBits_30 : decode prog_14_method_48_code 30 = .ok (.iload_n 2, 1) := by decide +kernel
theorem d_M_seenBits_31 : decode prog_14_method_48_code 31 = .ok (.ireturn, 1) := by decide +kernel
noncomputable def Lc_M_seenBits_1 : Xp Bool := o2 (fun x y => decide (x < y)) (vI 3) (cI (mV 12 D_M_seesMany) [asV Value.ref (vR 0), asV Value.int (vI 1)])
noncomputable def Lb_M_seenBits_1 : Sm := sSet 2 (asV Value.int (o2 (fun x y => x ||| y) (vI 2) (o2 (fun (x y : Int32) => x <<< (y &&& 31)) (kI (ii 1)) (cI (mV 12 D_M_seenAt) [asV Value.ref (vR 0), asV Value.int (vI 1), asV Value.int (vI 3)]))))
noncomputable def Lu_M_seenBits_1 : Sm := sInc 3 (ii 1)
noncomputable def F_M_seenBits : Sm := sSeq (sDecl (asV Value.int (kI (ii 0)))) (sSeq (sBlk 3 (sSeq (sDecl (asV Value.int (kI (ii 0)))) (sWh (Lc_M_seenBits_1) (Lb_M_seenBits_1) Lu_M_seenBits_1))) (sRet (asV Value.int (vI 2))))
theorem mf_M_seenBits : Mf y_M_seenBits prog_14_method_48_code 4 (some .int) 1 := ⟨tw_1744, tw_134, by decide +kernel⟩
noncomputable def D_M_seenBits : Dn := runS [1, 1] F_M_seenBits
theorem ok_M_seenBits : MOK y_M_seenBits prog_14_method_48_code 4 (some .int) 1 0 0 D_M_seenBits := MOK.of (by decide) (by decide) (show SO Y_M_seenBits [(0, 1), (1, 1)] [(0, 1), (1, 1), (2, 1)] 0 32 (([], 0), ([], 0)) F_M_seenBits from
  (s_seq (sl1 := [(0, 1), (1, 1), (2, 1)]) (p1 := 2) (s_decl (p1 := 1) (e_iconst d_M_seenBits_0 (by decide)) (t_istore_n d_M_seenBits_1 rfl (by decide)) rfl) (s_seq (sl1 := [(0, 1), (1, 1), (2, 1)]) (p1 := 30) (s_blk (sl1 := [(0, 1), (1, 1), (2, 1), (3, 1)]) (s_seq (sl1 := [(0, 1), (1, 1), (2, 1), (3, 1)]) (p1 := 4) (s_decl (p1 := 3) (e_iconst d_M_seenBits_2 (by decide)) (t_istore_n d_M_seenBits_3 rfl (by decide)) rfl) (s_for (pt := 13) (pu := 24) (pf := 30) (pg := 0) (c_icmp_geF (p1 := 5) (p2 := 10) (tg := 30) (e_iload_n (k0 := 3) d_M_seenBits_4 rfl rfl) (e_cI (p1 := 7) (a_cons (ι := Value.ref) (k0 := 1) (p1 := 6) (fun _ => rfl) (e_aload_n (k0 := 0) d_M_seenBits_5 rfl rfl) (a_cons (ι := Value.int) (k0 := 1) (p1 := 7) (fun _ => rfl) (e_iload_n (k0 := 1) d_M_seenBits_6 rfl rfl) a_nil)) (k_virt ok_M_seesMany mf_M_seesMany ⟨tw_1723, tw_77⟩ rfl tw_1721 d_M_seenBits_7 (by decide) (by decide) (by decide))) d_M_seenBits_10 rfl) (s_set (k0 := 2) (p1 := 23) (e_ior (p1 := 14) (p2 := 22) (e_iload_n (k0 := 2) d_M_seenBits_13 rfl rfl) (e_ishl (p1 := 15) (p2 := 21) (e_iconst d_M_seenBits_14 (by decide)) (e_cI (p1 := 18) (a_cons (ι := Value.ref) (k0 := 1) (p1 := 16) (fun _ => rfl) (e_aload_n (k0 := 0) d_M_seenBits_15 rfl rfl) (a_cons (ι := Value.int) (k0 := 1) (p1 := 17) (fun _ => rfl) (e_iload_n (k0 := 1) d_M_seenBits_16 rfl rfl) (a_cons (ι := Value.int) (k0 := 1) (p1 := 18) (fun _ => rfl) (e_iload_n (k0 := 3) d_M_seenBits_17 rfl rfl) a_nil))) (k_virt ok_M_seenAt mf_M_seenAt ⟨tw_1727, tw_78⟩ rfl tw_1725 d_M_seenBits_18 (by decide) (by decide) (by decide))) d_M_seenBits_21) d_M_seenBits_22) (t_istore_n d_M_seenBits_23 rfl (by decide)) rfl rfl) (s_goto (p1 := 27) (s_inc (k0 := 3) d_M_seenBits_24 rfl rfl (Nat.le_of_ble_eq_true rfl) rfl) d_M_seenBits_27 rfl))) rfl) (s_ret (p1 := 31) (e_iload_n (k0 := 2) d_M_seenBits_30 rfl rfl) rfl d_M_seenBits_31))))
/-! BlinkerCrossModel.choiceOf(I)I -/
abbrev y_M_choiceOf : MethodName := ⟨"BlinkerCrossModel", "choiceOf", "(I)I"⟩
abbrev Y_M_choiceOf : Yt := (prog_14_method_49_code, 5, "BlinkerCrossModel", 1, (some .int), "choiceOf")
theorem d_M_choiceOf_0 : decode prog_14_method_49_code 0 = .ok (.bipush (-2), 2) := by decide +kernel
theorem d_M_choiceOf_2 : decode prog_14_method_49_code 2 = .ok (.istore_n 2, 1) := by decide +kernel
theorem d_M_choiceOf_3 : decode prog_14_method_49_code 3 = .ok (.iconst 0, 1) := by decide +kernel
theorem d_M_choiceOf_4 : decode prog_14_method_49_code 4 = .ok (.istore_n 3, 1) := by decide +kernel
theorem d_M_choiceOf_5 : decode prog_14_method_49_code 5 = .ok (.iload_n 3, 1) := by decide +kernel
theorem d_M_choiceOf_6 : decode prog_14_method_49_code 6 = .ok (.aload_n 0, 1) := by decide +kernel
theorem d_M_choiceOf_7 : decode prog_14_method_49_code 7 = .ok (.iload_n 1, 1) := by decide +kernel
theorem d_M_choiceOf_8 : decode prog_14_method_49_code 8 = .ok (.invokevirtual 336, 3) := by decide +kernel
theorem d_M_choiceOf_11 : decode prog_14_method_49_code 11 = .ok (.if_icmp .ge 49, 3) := by decide +kernel
theorem d_M_choiceOf_14 : decode prog_14_method_49_code 14 = .ok (.aload_n 0, 1) := by decide +kernel
theorem d_M_choiceOf_15 : decode prog_14_method_49_code 15 = .ok (.iload_n 1, 1) := by decide +kernel
theorem d_M_choiceOf_16 : decode prog_14_method_49_code 16 = .ok (.iload_n 3, 1) := by decide +kernel
theorem d_M_choiceOf_17 : decode prog_14_method_49_code 17 = .ok (.invokevirtual 339, 3) := by decide +kernel
theorem d_M_choiceOf_20 : decode prog_14_method_49_code 20 = .ok (.istore 4, 2) := by decide +kernel
theorem d_M_choiceOf_22 : decode prog_14_method_49_code 22 = .ok (.iload 4, 2) := by decide +kernel
theorem d_M_choiceOf_24 : decode prog_14_method_49_code 24 = .ok (.aload_n 0, 1) := by decide +kernel
theorem d_M_choiceOf_25 : decode prog_14_method_49_code 25 = .ok (.getfield 329, 3) := by decide +kernel
theorem d_M_choiceOf_28 : decode prog_14_method_49_code 28 = .ok (.if_icmp .eq 26, 3) := by decide +kernel
theorem d_M_choiceOf_31 : decode prog_14_method_49_code 31 = .ok (.iload_n 2, 1) := by decide +kernel
theorem d_M_choiceOf_32 : decode prog_14_method_49_code 32 = .ok (.ifCond .lt 19, 3) := by decide +kernel
theorem d_M_choiceOf_35 : decode prog_14_method_49_code 35 = .ok (.aload_n 0, 1) := by decide +kernel
theorem d_M_choiceOf_36 : decode prog_14_method_49_code 36 = .ok (.iload_n 1, 1) := by decide +kernel
theorem d_M_choiceOf_37 : decode prog_14_method_49_code 37 = .ok (.iload 4, 2) := by decide +kernel
theorem d_M_choiceOf_39 : decode prog_14_method_49_code 39 = .ok (.invokevirtual 342, 3) := by decide +kernel
theorem d_M_choiceOf_42 : decode prog_14_method_49_code 42 = .ok (.aload_n 0, 1) := by decide +kernel
theorem d_M_choiceOf_43 : decode prog_14_method_49_code 43 = .ok (.iload_n 1, 1) := by decide +kernel
theorem d_M_choiceOf_44 : decode prog_14_method_49_code 44 = .ok (.iload_n 2, 1) := by decide +kernel
theorem d_M_choiceOf_45 : decode prog_14_method_49_code 45 = .ok (.invokevirtual 342, 3) := by decide +kernel
theorem d_M_choiceOf_48 : decode prog_14_method_49_code 48 = .ok (.if_icmp .le 6, 3) := by decide +kernel
theorem d_M_choiceOf_51 : decode prog_14_method_49_code 51 = .ok (.iload 4, 2) := by decide +kernel
theorem d_M_choiceOf_53 : decode prog_14_method_49_code 53 = .ok (.istore_n 2, 1) := by decide +kernel
theorem d_M_choiceOf_54 : decode prog_14_method_49_code 54 = .ok (.iinc 3 1, 3) := by decide +kernel
theorem d_M_choiceOf_57 : decode prog_14_method_49_code 57 = .ok (.goto (-52), 3) := by decide +kernel
theorem d_M_choiceOf_60 : decode prog_14_method_49_code 60 = .ok (.iload_n 2, 1) := by decide +kernel
theorem d_M_choiceOf_61 : decode prog_14_method_49_code 61 = .ok (.ireturn, 1) := by decide +kernel
noncomputable def Lc_M_choiceOf_1 : Xp Bool := o2 (fun x y => decide (x < y)) (vI 3) (cI (mV 12 D_M_seesMany) [asV Value.ref (vR 0), asV Value.int (vI 1)])
noncomputable def Lb_M_choiceOf_1 : Sm := sBlk 4 (sSeq (sDecl (asV Value.int (cI (mV 12 D_M_seenAt) [asV Value.ref (vR 0), asV Value.int (vI 1), asV Value.int (vI 3)]))) (sIf (cAnd (o2 (fun x y => decide (x ≠ y)) (vI 4) (gI 12 51 (vR 0))) (cOr (o1 (fun x => decide (x < 0)) (vI 2)) (o2 (fun x y => decide (x > y)) (cI (mV 12 D_M_wantAt) [asV Value.ref (vR 0), asV Value.int (vI 1), asV Value.int (vI 4)]) (cI (mV 12 D_M_wantAt) [asV Value.ref (vR 0), asV Value.int (vI 1), asV Value.int (vI 2)])))) (sSet 2 (asV Value.int (vI 4))) (sSkip)))
noncomputable def Lu_M_choiceOf_1 : Sm := sInc 3 (ii 1)
noncomputable def F_M_choiceOf : Sm := sSeq (sDecl (asV Value.int (kI (ii (-2))))) (sSeq (sBlk 3 (sSeq (sDecl (asV Value.int (kI (ii 0)))) (sWh (Lc_M_choiceOf_1) (Lb_M_choiceOf_1) Lu_M_choiceOf_1))) (sRet (asV Value.int (vI 2))))
theorem mf_M_choiceOf : Mf y_M_choiceOf prog_14_method_49_code 5 (some .int) 1 := ⟨tw_1720, tw_134, by decide +kernel⟩
noncomputable def D_M_choiceOf : Dn := runS [1, 1] F_M_choiceOf
theorem ok_M_choiceOf : MOK y_M_choiceOf prog_14_method_49_code 5 (some .int) 1 0 0 D_M_choiceOf := MOK.of (by decide) (by decide) (show SO Y_M_choiceOf [(0, 1), (1, 1)] [(0, 1), (1, 1), (2, 1)] 0 62 (([], 0), ([], 0)) F_M_choiceOf from
  (s_seq (sl1 := [(0, 1), (1, 1), (2, 1)]) (p1 := 3) (s_decl (p1 := 2) (e_bipush d_M_choiceOf_0 (by decide)) (t_istore_n d_M_choiceOf_2 rfl (by decide)) rfl) (s_seq (sl1 := [(0, 1), (1, 1), (2, 1)]) (p1 := 60) (s_blk (sl1 := [(0, 1), (1, 1), (2, 1), (3, 1)]) (s_seq (sl1 := [(0, 1), (1, 1), (2, 1), (3, 1)]) (p1 := 5) (s_decl (p1 := 4) (e_iconst d_M_choiceOf_3 (by decide)) (t_istore_n d_M_choiceOf_4 rfl (by decide)) rfl) (s_for (pt := 14) (pu := 54) (pf := 60) (pg := 0) (c_icmp_geF (p1 := 6) (p2 := 11) (tg := 60) (e_iload_n (k0 := 3) d_M_choiceOf_5 rfl rfl) (e_cI (p1 := 8) (a_cons (ι := Value.ref) (k0 := 1) (p1 := 7) (fun _ => rfl) (e_aload_n (k0 := 0) d_M_choiceOf_6 rfl rfl) (a_cons (ι := Value.int) (k0 := 1) (p1 := 8) (fun _ => rfl) (e_iload_n (k0 := 1) d_M_choiceOf_7 rfl rfl) a_nil)) (k_virt ok_M_seesMany mf_M_seesMany ⟨tw_1723, tw_77⟩ rfl tw_1721 d_M_choiceOf_8 (by decide) (by decide) (by decide))) d_M_choiceOf_11 rfl) (s_blk (sl1 := [(0, 1), (1, 1), (2, 1), (3, 1), (4, 1)]) (s_seq (sl1 := [(0, 1), (1, 1), (2, 1), (3, 1), (4, 1)]) (p1 := 22) (s_decl (p1 := 20) (e_cI (p1 := 17) (a_cons (ι := Value.ref) (k0 := 1) (p1 := 15) (fun _ => rfl) (e_aload_n (k0 := 0) d_M_choiceOf_14 rfl rfl) (a_cons (ι := Value.int) (k0 := 1) (p1 := 16) (fun _ => rfl) (e_iload_n (k0 := 1) d_M_choiceOf_15 rfl rfl) (a_cons (ι := Value.int) (k0 := 1) (p1 := 17) (fun _ => rfl) (e_iload_n (k0 := 3) d_M_choiceOf_16 rfl rfl) a_nil))) (k_virt ok_M_seenAt mf_M_seenAt ⟨tw_1727, tw_78⟩ rfl tw_1725 d_M_choiceOf_17 (by decide) (by decide) (by decide))) (t_istore d_M_choiceOf_20 (by decide)) rfl) (s_if (pt := 51) (pf := 54) (c_and (p1 := 31) (c_icmp_eqF (p1 := 24) (p2 := 28) (tg := 54) (e_iload (k0 := 4) d_M_choiceOf_22 rfl) (e_gI (k0 := 51) (p1 := 25) cf_12 (e_aload_n (k0 := 0) d_M_choiceOf_24 rfl rfl) (by decide) tw_1411 d_M_choiceOf_25) d_M_choiceOf_28 rfl) (c_or (p1 := 35) (c_if_ltT (p1 := 32) (tg := 51) (e_iload_n (k0 := 2) d_M_choiceOf_31 rfl rfl) d_M_choiceOf_32 rfl) (c_icmp_leF (p1 := 42) (p2 := 48) (tg := 54) (e_cI (p1 := 39) (a_cons (ι := Value.ref) (k0 := 1) (p1 := 36) (fun _ => rfl) (e_aload_n (k0 := 0) d_M_choiceOf_35 rfl rfl) (a_cons (ι := Value.int) (k0 := 1) (p1 := 37) (fun _ => rfl) (e_iload_n (k0 := 1) d_M_choiceOf_36 rfl rfl) (a_cons (ι := Value.int) (k0 := 1) (p1 := 39) (fun _ => rfl) (e_iload (k0 := 4) d_M_choiceOf_37 rfl) a_nil))) (k_virt ok_M_wantAt mf_M_wantAt ⟨tw_1731, tw_79⟩ rfl tw_1729 d_M_choiceOf_39 (by decide) (by decide) (by decide))) (e_cI (p1 := 45) (a_cons (ι := Value.ref) (k0 := 1) (p1 := 43) (fun _ => rfl) (e_aload_n (k0 := 0) d_M_choiceOf_42 rfl rfl) (a_cons (ι := Value.int) (k0 := 1) (p1 := 44) (fun _ => rfl) (e_iload_n (k0 := 1) d_M_choiceOf_43 rfl rfl) (a_cons (ι := Value.int) (k0 := 1) (p1 := 45) (fun _ => rfl) (e_iload_n (k0 := 2) d_M_choiceOf_44 rfl rfl) a_nil))) (k_virt ok_M_wantAt mf_M_wantAt ⟨tw_1731, tw_79⟩ rfl tw_1729 d_M_choiceOf_45 (by decide) (by decide) (by decide))) d_M_choiceOf_48 rfl))) (s_set (k0 := 2) (p1 := 53) (e_iload (k0 := 4) d_M_choiceOf_51 rfl) (t_istore_n d_M_choiceOf_53 rfl (by decide)) rfl rfl) s_skip)) rfl) (s_goto (p1 := 57) (s_inc (k0 := 3) d_M_choiceOf_54 rfl rfl (Nat.le_of_ble_eq_true rfl) rfl) d_M_choiceOf_57 rfl))) rfl) (s_ret (p1 := 61) (e_iload_n (k0 := 2) d_M_choiceOf_60 rfl rfl) rfl d_M_choiceOf_61))))
/-! BlinkerCrossModel.fillsChoices()V -/
abbrev y_M_fillsChoices : MethodName := ⟨"BlinkerCrossModel", "fillsChoices", "()V"⟩
abbrev Y_M_fillsChoices : Yt := (prog_14_method_50_code, 2, "BlinkerCrossModel", 2, none, "fillsChoices")
theorem d_M_fillsChoices_0 : decode prog_14_method_50_code 0 = .ok (.iconst 0, 1) := by decide +kernel
theorem d_M_fillsChoices_1 : decode prog_14_method_50_code 1 = .ok (.istore_n 1, 1) := by decide +kernel
theorem d_M_fillsChoices_2 : decode prog_14_method_50_code 2 = .ok (.iload_n 1, 1) := by decide +kernel
theorem d_M_fillsChoices_3 : decode prog_14_method_50_code 3 = .ok (.iconst 5, 1) := by decide +kernel
theorem d_M_fillsChoices_4 : decode prog_14_method_50_code 4 = .ok (.if_icmp .ge 33, 3) := by decide +kernel
theorem d_M_fillsChoices_7 : decode prog_14_method_50_code 7 = .ok (.aload_n 0, 1) := by decide +kernel
theorem d_M_fillsChoices_8 : decode prog_14_method_50_code 8 = .ok (.getfield 113, 3) := by decide +kernel
theorem d_M_fillsChoices_11 : decode prog_14_method_50_code 11 = .ok (.iload_n 1, 1) := by decide +kernel
theorem d_M_fillsChoices_12 : decode prog_14_method_50_code 12 = .ok (.aload_n 0, 1) := by decide +kernel
theorem d_M_fillsChoices_13 : decode prog_14_method_50_code 13 = .ok (.iload_n 1, 1) := by decide +kernel
theorem d_M_fillsChoices_14 : decode prog_14_method_50_code 14 = .ok (.invokevirtual 345, 3) := by decide +kernel
theorem d_M_fillsChoices_17 : decode prog_14_method_50_code 17 = .ok (.ifCond .eq 11, 3) := by decide +kernel
theorem d_M_fillsChoices_20 : decode prog_14_method_50_code 20 = .ok (.aload_n 0, 1) := by decide +kernel
theorem d_M_fillsChoices_21 : decode prog_14_method_50_code 21 = .ok (.iload_n 1, 1) := by decide +kernel
theorem d_M_fillsChoices_22 : decode prog_14_method_50_code 22 = .ok (.invokevirtual 348, 3) := by decide +kernel
theorem d_M_fillsChoices_25 : decode prog_14_method_50_code 25 = .ok (.goto 5, 3) := by decide +kernel
theorem d_M_fillsChoices_28 : decode prog_14_method_50_code 28 = .ok (.bipush (-2), 2) := by decide +kernel
theorem d_M_fillsChoices_30 : decode prog_14_method_50_code 30 = .ok (.iastore, 1) := by decide +kernel
theorem d_M_fillsChoices_31 : decode prog_14_method_50_code 31 = .ok (.iinc 1 1, 3) := by decide +kernel
theorem d_M_fillsChoices_34 : decode prog_14_method_50_code 34 = .ok (.goto (-32), 3) := by decide +kernel
theorem d_M_fillsChoices_37 : decode prog_14_method_50_code 37 = .ok (.return_, 1) := by decide +kernel
noncomputable def Lc_M_fillsChoices_1 : Xp Bool := o2 (fun x y => decide (x < y)) (vI 1) (kI (ii 5))
noncomputable def Lb_M_fillsChoices_1 : Sm := sAst 0 (gR 12 52 (vR 0)) (vI 1) (iX (o1 (fun x => decide (x ≠ 0)) (cI (mV 12 D_M_isGoer) [asV Value.ref (vR 0), asV Value.int (vI 1)])) (cI (mV 12 D_M_choiceOf) [asV Value.ref (vR 0), asV Value.int (vI 1)]) (kI (ii (-2))))
noncomputable def Lu_M_fillsChoices_1 : Sm := sInc 1 (ii 1)
noncomputable def F_M_fillsChoices : Sm := sSeq (sBlk 1 (sSeq (sDecl (asV Value.int (kI (ii 0)))) (sWh (Lc_M_fillsChoices_1) (Lb_M_fillsChoices_1) Lu_M_fillsChoices_1))) (sRetV)
theorem mf_M_fillsChoices : Mf y_M_fillsChoices prog_14_method_50_code 2 none 0 := ⟨tw_1712, tw_134, by decide +kernel⟩
noncomputable def D_M_fillsChoices : Dn := runS [1] F_M_fillsChoices
theorem ok_M_fillsChoices : MOK y_M_fillsChoices prog_14_method_50_code 2 none 2 0 0 D_M_fillsChoices := MOK.of (by decide) (by decide) (show SO Y_M_fillsChoices [(0, 1)] [(0, 1)] 0 38 (([], 0), ([], 0)) F_M_fillsChoices from
  (s_seq (sl1 := [(0, 1)]) (p1 := 37) (s_blk (sl1 := [(0, 1), (1, 1)]) (s_seq (sl1 := [(0, 1), (1, 1)]) (p1 := 2) (s_decl (p1 := 1) (e_iconst d_M_fillsChoices_0 (by decide)) (t_istore_n d_M_fillsChoices_1 rfl (by decide)) rfl) (s_for (pt := 7) (pu := 31) (pf := 37) (pg := 0) (c_icmp_geF (p1 := 3) (p2 := 4) (tg := 37) (e_iload_n (k0 := 1) d_M_fillsChoices_2 rfl rfl) (e_iconst d_M_fillsChoices_3 (by decide)) d_M_fillsChoices_4 rfl) (s_ast (p1 := 11) (p2 := 12) (p3 := 30) (e_gR (k0 := 52) (p1 := 8) cf_12 (e_aload_n (k0 := 0) d_M_fillsChoices_7 rfl rfl) (by decide) tw_1412 d_M_fillsChoices_8) (e_iload_n (k0 := 1) d_M_fillsChoices_11 rfl rfl) (e_ite (pt := 20) (p1 := 25) (pf := 28) (c_if_eqF (p1 := 17) (tg := 28) (e_cI (p1 := 14) (a_cons (ι := Value.ref) (k0 := 1) (p1 := 13) (fun _ => rfl) (e_aload_n (k0 := 0) d_M_fillsChoices_12 rfl rfl) (a_cons (ι := Value.int) (k0 := 1) (p1 := 14) (fun _ => rfl) (e_iload_n (k0 := 1) d_M_fillsChoices_13 rfl rfl) a_nil)) (k_virt ok_M_isGoer mf_M_isGoer ⟨tw_1715, tw_75⟩ rfl tw_1713 d_M_fillsChoices_14 (by decide) (by decide) (by decide))) d_M_fillsChoices_17 rfl) (e_cI (p1 := 22) (a_cons (ι := Value.ref) (k0 := 1) (p1 := 21) (fun _ => rfl) (e_aload_n (k0 := 0) d_M_fillsChoices_20 rfl rfl) (a_cons (ι := Value.int) (k0 := 1) (p1 := 22) (fun _ => rfl) (e_iload_n (k0 := 1) d_M_fillsChoices_21 rfl rfl) a_nil)) (k_virt ok_M_choiceOf mf_M_choiceOf ⟨tw_1719, tw_76⟩ rfl tw_1717 d_M_fillsChoices_22 (by decide) (by decide) (by decide))) d_M_fillsChoices_25 rfl (e_bipush d_M_fillsChoices_28 (by decide))) (as_i d_M_fillsChoices_30)) (s_goto (p1 := 34) (s_inc (k0 := 1) d_M_fillsChoices_31 rfl rfl (Nat.le_of_ble_eq_true rfl) rfl) d_M_fillsChoices_34 rfl))) rfl) (s_retV rfl d_M_fillsChoices_37)))
/-! BlinkerCrossModel.choosing(I)I -/
abbrev y_M_choosing : MethodName := ⟨"BlinkerCrossModel", "choosing", "(I)I"⟩
abbrev Y_M_choosing : Yt := (prog_14_method_51_code, 4, "BlinkerCrossModel", 0, (some .int), "choosing")
theorem d_M_choosing_0 : decode prog_14_method_51_code 0 = .ok (.iconst 0, 1) := by decide +kernel
theorem d_M_choosing_1 : decode prog_14_method_51_code 1 = .ok (.istore_n 2, 1) := by decide +kernel
theorem d_M_choosing_2 : decode prog_14_method_51_code 2 = .ok (.iconst 0, 1) := by decide +kernel
theorem d_M_choosing_3 : decode prog_14_method_51_code 3 = .ok (.istore_n 3, 1) := by decide +kernel
theorem d_M_choosing_4 : decode prog_14_method_51_code 4 = .ok (.iload_n 3, 1) := by decide +kernel
theorem d_M_choosing_5 : decode prog_14_method_51_code 5 = .ok (.aload_n 0, 1) := by decide +kernel
theorem d_M_choosing_6 : decode prog_14_method_51_code 6 = .ok (.getfield 52, 3) := by decide +kernel
theorem d_M_choosing_9 : decode prog_14_method_51_code 9 = .ok (.aload_n 0, 1) := by decide +kernel
theorem d_M_choosing_10 : decode prog_14_method_51_code 10 = .ok (.getfield 242, 3) := by decide +kernel
theorem d_M_choosing_13 : decode prog_14_method_51_code 13 = .ok (.iaload, 1) := by decide +kernel
theorem d_M_choosing_14 : decode prog_14_method_51_code 14 = .ok (.if_icmp .ge 22, 3) := by decide +kernel
theorem d_M_choosing_17 : decode prog_14_method_51_code 17 = .ok (.aload_n 0, 1) := by decide +kernel
theorem d_M_choosing_18 : decode prog_14_method_51_code 18 = .ok (.getfield 113, 3) := by decide +kernel
theorem d_M_choosing_21 : decode prog_14_method_51_code 21 = .ok (.iload_n 3, 1) := by decide +kernel
theorem d_M_choosing_22 : decode prog_14_method_51_code 22 = .ok (.iaload, 1) := by decide +kernel
theorem d_M_choosing_23 : decode prog_14_method_51_code 23 = .ok (.iload_n 1, 1) := by decide +kernel
theorem d_M_choosing_24 : decode prog_14_method_51_code 24 = .ok (.if_icmp .ne 6, 3) := by decide +kernel
theorem d_M_choosing_27 : decode prog_14_method_51_code 27 = .ok (.iinc 2 1, 3) := by decide +kernel
theorem d_M_choosing_30 : decode prog_14_method_51_code 30 = .ok (.iinc 3 1, 3) := by decide +kernel
theorem d_M_choosing_33 : decode prog_14_method_51_code 33 = .ok (.goto (-29), 3) := by decide +kernel
theorem d_M_choosing_36 : decode prog_14_method_51_code 36 = .ok (.iload_n 2, 1) := by decide +kernel
theorem d_M_choosing_37 : decode prog_14_method_51_code 37 = .ok (.ireturn, 1) := by decide +kernel
noncomputable def Lc_M_choosing_1 : Xp Bool := o2 (fun x y => decide (x < y)) (vI 3) (aI 0 (gR 12 25 (vR 0)) (gI 12 18 (vR 0)))
noncomputable def Lb_M_choosing_1 : Sm := sIf (o2 (fun x y => decide (x = y)) (aI 0 (gR 12 52 (vR 0)) (vI 3)) (vI 1)) (sInc 2 (ii 1)) (sSkip)
noncomputable def Lu_M_choosing_1 : Sm := sInc 3 (ii 1)
noncomputable def F_M_choosing : Sm := sSeq (sDecl (asV Value.int (kI (ii 0)))) (sSeq (sBlk 3 (sSeq (sDecl (asV Value.int (kI (ii 0)))) (sWh (Lc_M_choosing_1) (Lb_M_choosing_1) Lu_M_choosing_1))) (sRet (asV Value.int (vI 2))))
theorem mf_M_choosing : Mf y_M_choosing prog_14_method_51_code 4 (some .int) 1 := ⟨tw_1736, tw_134, by decide +kernel⟩
noncomputable def D_M_choosing : Dn := runS [1, 1] F_M_choosing
theorem ok_M_choosing : MOK y_M_choosing prog_14_method_51_code 4 (some .int) 0 0 0 D_M_choosing := MOK.of (by decide) (by decide) (show SO Y_M_choosing [(0, 1), (1, 1)] [(0, 1), (1, 1), (2, 1)] 0 38 (([], 0), ([], 0)) F_M_choosing from
  (s_seq (sl1 := [(0, 1), (1, 1), (2, 1)]) (p1 := 2) (s_decl (p1 := 1) (e_iconst d_M_choosing_0 (by decide)) (t_istore_n d_M_choosing_1 rfl (by decide)) rfl) (s_seq (sl1 := [(0, 1), (1, 1), (2, 1)]) (p1 := 36) (s_blk (sl1 := [(0, 1), (1, 1), (2, 1), (3, 1)]) (s_seq (sl1 := [(0, 1), (1, 1), (2, 1), (3, 1)]) (p1 := 4) (s_decl (p1 := 3) (e_iconst d_M_choosing_2 (by decide)) (t_istore_n d_M_choosing_3 rfl (by decide)) rfl) (s_for (pt := 17) (pu := 30) (pf := 36) (pg := 0) (c_icmp_geF (p1 := 5) (p2 := 14) (tg := 36) (e_iload_n (k0 := 3) d_M_choosing_4 rfl rfl) (e_iald (p1 := 9) (p2 := 13) (e_gR (k0 := 25) (p1 := 6) cf_12 (e_aload_n (k0 := 0) d_M_choosing_5 rfl rfl) (by decide) tw_1385 d_M_choosing_6) (e_gI (k0 := 18) (p1 := 10) cf_12 (e_aload_n (k0 := 0) d_M_choosing_9 rfl rfl) (by decide) tw_1378 d_M_choosing_10) d_M_choosing_13) d_M_choosing_14 rfl) (s_if (pt := 27) (pf := 30) (c_icmp_neF (p1 := 23) (p2 := 24) (tg := 30) (e_iald (p1 := 21) (p2 := 22) (e_gR (k0 := 52) (p1 := 18) cf_12 (e_aload_n (k0 := 0) d_M_choosing_17 rfl rfl) (by decide) tw_1412 d_M_choosing_18) (e_iload_n (k0 := 3) d_M_choosing_21 rfl rfl) d_M_choosing_22) (e_iload_n (k0 := 1) d_M_choosing_23 rfl rfl) d_M_choosing_24 rfl) (s_inc (k0 := 2) d_M_choosing_27 rfl rfl (Nat.le_of_ble_eq_true rfl) rfl) s_skip) (s_goto (p1 := 33) (s_inc (k0 := 3) d_M_choosing_30 rfl rfl (Nat.le_of_ble_eq_true rfl) rfl) d_M_choosing_33 rfl))) rfl) (s_ret (p1 := 37) (e_iload_n (k0 := 2) d_M_choosing_36 rfl rfl) rfl d_M_choosing_37))))

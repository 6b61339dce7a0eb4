/-! Methods: bytes, denotations, that the bytes do so (written by wip/whole/jgen.py). -/
/-! BlinkerCross.feed(IIIII)I -/
abbrev y_X_feed : MethodName := ⟨"BlinkerCross", "feed", "(IIIII)I"⟩
abbrev Y_X_feed : Yt := (prog_1_method_2_code, 6, "BlinkerCross", 1, (some .int), "feed")
theorem d_X_feed_0 : decode prog_1_method_2_code 0 = .ok (.aload_n 0, 1) := by decide +kernel
theorem d_X_feed_1 : decode prog_1_method_2_code 1 = .ok (.getfield 12, 3) := by decide +kernel
theorem d_X_feed_4 : decode prog_1_method_2_code 4 = .ok (.getfield 96, 3) := by decide +kernel
theorem d_X_feed_7 : decode prog_1_method_2_code 7 = .ok (.bipush 20, 2) := by decide +kernel
theorem d_X_feed_9 : decode prog_1_method_2_code 9 = .ok (.iadd, 1) := by decide +kernel
theorem d_X_feed_10 : decode prog_1_method_2_code 10 = .ok (.sipush 2000, 3) := by decide +kernel
theorem d_X_feed_13 : decode prog_1_method_2_code 13 = .ok (.if_icmp .le 5, 3) := by decide +kernel
theorem d_X_feed_16 : decode prog_1_method_2_code 16 = .ok (.iconst (-1), 1) := by decide +kernel
theorem d_X_feed_17 : decode prog_1_method_2_code 17 = .ok (.ireturn, 1) := by decide +kernel
theorem d_X_feed_18 : decode prog_1_method_2_code 18 = .ok (.aload_n 0, 1) := by decide +kernel
theorem d_X_feed_19 : decode prog_1_method_2_code 19 = .ok (.getfield 12, 3) := by decide +kernel
theorem d_X_feed_22 : decode prog_1_method_2_code 22 = .ok (.iload_n 1, 1) := by decide +kernel
theorem d_X_feed_23 : decode prog_1_method_2_code 23 = .ok (.invokevirtual 100, 3) := by decide +kernel
theorem d_X_feed_26 : decode prog_1_method_2_code 26 = .ok (.aload_n 0, 1) := by decide +kernel
theorem d_X_feed_27 : decode prog_1_method_2_code 27 = .ok (.getfield 12, 3) := by decide +kernel
theorem d_X_feed_30 : decode prog_1_method_2_code 30 = .ok (.iload_n 2, 1) := by decide +kernel
theorem d_X_feed_31 : decode prog_1_method_2_code 31 = .ok (.invokevirtual 100, 3) := by decide +kernel
theorem d_X_feed_34 : decode prog_1_method_2_code 34 = .ok (.aload_n 0, 1) := by decide +kernel
theorem d_X_feed_35 : decode prog_1_method_2_code 35 = .ok (.getfield 12, 3) := by decide +kernel
theorem d_X_feed_38 : decode prog_1_method_2_code 38 = .ok (.iload_n 3, 1) := by decide +kernel
theorem d_X_feed_39 : decode prog_1_method_2_code 39 = .ok (.invokevirtual 100, 3) := by decide +kernel
theorem d_X_feed_42 : decode prog_1_method_2_code 42 = .ok (.aload_n 0, 1) := by decide +kernel
theorem d_X_feed_43 : decode prog_1_method_2_code 43 = .ok (.getfield 12, 3) := by decide +kernel
theorem d_X_feed_46 : decode prog_1_method_2_code 46 = .ok (.iload 4, 2) := by decide +kernel
theorem d_X_feed_48 : decode prog_1_method_2_code 48 = .ok (.invokevirtual 100, 3) := by decide +kernel
theorem d_X_feed_51 : decode prog_1_method_2_code 51 = .ok (.aload_n 0, 1) := by decide +kernel
theorem d_X_feed_52 : decode prog_1_method_2_code 52 = .ok (.getfield 12, 3) := by decide +kernel
theorem d_X_feed_55 : decode prog_1_method_2_code 55 = .ok (.iload 5, 2) := by decide +kernel
theorem d_X_feed_57 : decode prog_1_method_2_code 57 = .ok (.invokevirtual 100, 3) := by decide +kernel
theorem d_X_feed_60 : decode prog_1_method_2_code 60 = .ok (.aload_n 0, 1) := by decide +kernel
theorem d_X_feed_61 : decode prog_1_method_2_code 61 = .ok (.getfield 12, 3) := by decide +kernel
theorem d_X_feed_64 : decode prog_1_method_2_code 64 = .ok (.getfield 96, 3) := by decide +kernel
theorem d_X_feed_67 : decode prog_1_method_2_code 67 = .ok (.ireturn, 1) := by decide +kernel
noncomputable def F_X_feed : Sm := sSeq (sIf (o2 (fun x y => decide (x > y)) (o2 (fun x y => x + y) (gI 1 1 (gR 0 0 (vR 0))) (kI (ii 20))) (kI (ii 2000))) (sRet (asV Value.int (kI (ii (-1))))) (sSkip)) (sSeq (sCall (mV 1 D_Tape_put) [asV Value.ref (gR 0 0 (vR 0)), asV Value.int (vI 1)]) (sSeq (sCall (mV 1 D_Tape_put) [asV Value.ref (gR 0 0 (vR 0)), asV Value.int (vI 2)]) (sSeq (sCall (mV 1 D_Tape_put) [asV Value.ref (gR 0 0 (vR 0)), asV Value.int (vI 3)]) (sSeq (sCall (mV 1 D_Tape_put) [asV Value.ref (gR 0 0 (vR 0)), asV Value.int (vI 4)]) (sSeq (sCall (mV 1 D_Tape_put) [asV Value.ref (gR 0 0 (vR 0)), asV Value.int (vI 5)]) (sRet (asV Value.int (gI 1 1 (gR 0 0 (vR 0))))))))))
theorem mf_X_feed : Mf y_X_feed prog_1_method_2_code 6 (some .int) 5 := ⟨tw_602, tw_122, by decide +kernel⟩
noncomputable def D_X_feed : Dn := runS [1, 1, 1, 1, 1, 1] F_X_feed
theorem ok_X_feed : MOK y_X_feed prog_1_method_2_code 6 (some .int) 1 0 0 D_X_feed := MOK.of (by decide) (by decide) (show SO Y_X_feed [(0, 1), (1, 1), (2, 1), (3, 1), (4, 1), (5, 1)] [(0, 1), (1, 1), (2, 1), (3, 1), (4, 1), (5, 1)] 0 68 (([], 0), ([], 0)) F_X_feed from
  (s_seq (sl1 := [(0, 1), (1, 1), (2, 1), (3, 1), (4, 1), (5, 1)]) (p1 := 18) (s_if (pt := 16) (pf := 18) (c_icmp_leF (p1 := 10) (p2 := 13) (tg := 18) (e_iadd (p1 := 7) (p2 := 9) (e_gI (k0 := 1) (p1 := 4) cf_1 (e_gR (k0 := 0) (p1 := 1) cf_0 (e_aload_n (k0 := 0) d_X_feed_0 rfl rfl) (by decide) tw_565 d_X_feed_1) (by decide) tw_158 d_X_feed_4) (e_bipush d_X_feed_7 (by decide)) d_X_feed_9) (e_sipush d_X_feed_10 (by decide)) d_X_feed_13 rfl) (s_ret (p1 := 17) (e_iconst d_X_feed_16 (by decide)) rfl d_X_feed_17) s_skip) (s_seq (sl1 := [(0, 1), (1, 1), (2, 1), (3, 1), (4, 1), (5, 1)]) (p1 := 26) (s_call (p1 := 23) (a_cons (ι := Value.ref) (k0 := 1) (p1 := 22) (fun _ => rfl) (e_gR (k0 := 0) (p1 := 19) cf_0 (e_aload_n (k0 := 0) d_X_feed_18 rfl rfl) (by decide) tw_565 d_X_feed_19) (a_cons (ι := Value.int) (k0 := 1) (p1 := 23) (fun _ => rfl) (e_iload_n (k0 := 1) d_X_feed_22 rfl rfl) a_nil)) (k_virt ok_Tape_put mf_Tape_put ⟨tw_604, tw_605⟩ rfl tw_603 d_X_feed_23 (by decide) (by decide) (by decide))) (s_seq (sl1 := [(0, 1), (1, 1), (2, 1), (3, 1), (4, 1), (5, 1)]) (p1 := 34) (s_call (p1 := 31) (a_cons (ι := Value.ref) (k0 := 1) (p1 := 30) (fun _ => rfl) (e_gR (k0 := 0) (p1 := 27) cf_0 (e_aload_n (k0 := 0) d_X_feed_26 rfl rfl) (by decide) tw_565 d_X_feed_27) (a_cons (ι := Value.int) (k0 := 1) (p1 := 31) (fun _ => rfl) (e_iload_n (k0 := 2) d_X_feed_30 rfl rfl) a_nil)) (k_virt ok_Tape_put mf_Tape_put ⟨tw_604, tw_605⟩ rfl tw_603 d_X_feed_31 (by decide) (by decide) (by decide))) (s_seq (sl1 := [(0, 1), (1, 1), (2, 1), (3, 1), (4, 1), (5, 1)]) (p1 := 42) (s_call (p1 := 39) (a_cons (ι := Value.ref) (k0 := 1) (p1 := 38) (fun _ => rfl) (e_gR (k0 := 0) (p1 := 35) cf_0 (e_aload_n (k0 := 0) d_X_feed_34 rfl rfl) (by decide) tw_565 d_X_feed_35) (a_cons (ι := Value.int) (k0 := 1) (p1 := 39) (fun _ => rfl) (e_iload_n (k0 := 3) d_X_feed_38 rfl rfl) a_nil)) (k_virt ok_Tape_put mf_Tape_put ⟨tw_604, tw_605⟩ rfl tw_603 d_X_feed_39 (by decide) (by decide) (by decide))) (s_seq (sl1 := [(0, 1), (1, 1), (2, 1), (3, 1), (4, 1), (5, 1)]) (p1 := 51) (s_call (p1 := 48) (a_cons (ι := Value.ref) (k0 := 1) (p1 := 46) (fun _ => rfl) (e_gR (k0 := 0) (p1 := 43) cf_0 (e_aload_n (k0 := 0) d_X_feed_42 rfl rfl) (by decide) tw_565 d_X_feed_43) (a_cons (ι := Value.int) (k0 := 1) (p1 := 48) (fun _ => rfl) (e_iload (k0 := 4) d_X_feed_46 rfl) a_nil)) (k_virt ok_Tape_put mf_Tape_put ⟨tw_604, tw_605⟩ rfl tw_603 d_X_feed_48 (by decide) (by decide) (by decide))) (s_seq (sl1 := [(0, 1), (1, 1), (2, 1), (3, 1), (4, 1), (5, 1)]) (p1 := 60) (s_call (p1 := 57) (a_cons (ι := Value.ref) (k0 := 1) (p1 := 55) (fun _ => rfl) (e_gR (k0 := 0) (p1 := 52) cf_0 (e_aload_n (k0 := 0) d_X_feed_51 rfl rfl) (by decide) tw_565 d_X_feed_52) (a_cons (ι := Value.int) (k0 := 1) (p1 := 57) (fun _ => rfl) (e_iload (k0 := 5) d_X_feed_55 rfl) a_nil)) (k_virt ok_Tape_put mf_Tape_put ⟨tw_604, tw_605⟩ rfl tw_603 d_X_feed_57 (by decide) (by decide) (by decide))) (s_ret (p1 := 67) (e_gI (k0 := 1) (p1 := 64) cf_1 (e_gR (k0 := 0) (p1 := 61) cf_0 (e_aload_n (k0 := 0) d_X_feed_60 rfl rfl) (by decide) tw_565 d_X_feed_61) (by decide) tw_158 d_X_feed_64) rfl d_X_feed_67))))))))
/-! BlinkerCross.back(I)I -/
abbrev y_X_back : MethodName := ⟨"BlinkerCross", "back", "(I)I"⟩
abbrev Y_X_back : Yt := (prog_1_method_3_code, 2, "BlinkerCross", 0, (some .int), "back")
theorem d_X_back_0 : decode prog_1_method_3_code 0 = .ok (.iload_n 1, 1) := by decide +kernel
theorem d_X_back_1 : decode prog_1_method_3_code 1 = .ok (.ifCond .lt 14, 3) := by decide +kernel
theorem d_X_back_4 : decode prog_1_method_3_code 4 = .ok (.iload_n 1, 1) := by decide +kernel
theorem d_X_back_5 : decode prog_1_method_3_code 5 = .ok (.aload_n 0, 1) := by decide +kernel
theorem d_X_back_6 : decode prog_1_method_3_code 6 = .ok (.getfield 12, 3) := by decide +kernel
theorem d_X_back_9 : decode prog_1_method_3_code 9 = .ok (.getfield 96, 3) := by decide +kernel
theorem d_X_back_12 : decode prog_1_method_3_code 12 = .ok (.if_icmp .le 5, 3) := by decide +kernel
theorem d_X_back_15 : decode prog_1_method_3_code 15 = .ok (.iconst (-1), 1) := by decide +kernel
theorem d_X_back_16 : decode prog_1_method_3_code 16 = .ok (.ireturn, 1) := by decide +kernel
theorem d_X_back_17 : decode prog_1_method_3_code 17 = .ok (.aload_n 0, 1) := by decide +kernel
theorem d_X_back_18 : decode prog_1_method_3_code 18 = .ok (.getfield 12, 3) := by decide +kernel
theorem d_X_back_21 : decode prog_1_method_3_code 21 = .ok (.dup, 1) := by decide +kernel
theorem d_X_back_22 : decode prog_1_method_3_code 22 = .ok (.getfield 96, 3) := by decide +kernel
theorem d_X_back_25 : decode prog_1_method_3_code 25 = .ok (.iload_n 1, 1) := by decide +kernel
theorem d_X_back_26 : decode prog_1_method_3_code 26 = .ok (.isub, 1) := by decide +kernel
theorem d_X_back_27 : decode prog_1_method_3_code 27 = .ok (.putfield 96, 3) := by decide +kernel
theorem d_X_back_30 : decode prog_1_method_3_code 30 = .ok (.aload_n 0, 1) := by decide +kernel
theorem d_X_back_31 : decode prog_1_method_3_code 31 = .ok (.getfield 12, 3) := by decide +kernel
theorem d_X_back_34 : decode prog_1_method_3_code 34 = .ok (.getfield 96, 3) := by decide +kernel
theorem d_X_back_37 : decode prog_1_method_3_code 37 = .ok (.ireturn, 1) := by decide +kernel
noncomputable def F_X_back : Sm := sSeq (sIf (cOr (o1 (fun x => decide (x < 0)) (vI 1)) (o2 (fun x y => decide (x > y)) (vI 1) (gI 1 1 (gR 0 0 (vR 0))))) (sRet (asV Value.int (kI (ii (-1))))) (sSkip)) (sSeq (sFop 1 1 (gR 0 0 (vR 0)) (fun x y => x - y) (vI 1)) (sRet (asV Value.int (gI 1 1 (gR 0 0 (vR 0))))))
theorem mf_X_back : Mf y_X_back prog_1_method_3_code 2 (some .int) 1 := ⟨tw_610, tw_122, by decide +kernel⟩
noncomputable def D_X_back : Dn := runS [1, 1] F_X_back
theorem ok_X_back : MOK y_X_back prog_1_method_3_code 2 (some .int) 0 0 0 D_X_back := MOK.of (by decide) (by decide) (show SO Y_X_back [(0, 1), (1, 1)] [(0, 1), (1, 1)] 0 38 (([], 0), ([], 0)) F_X_back from
  (s_seq (sl1 := [(0, 1), (1, 1)]) (p1 := 17) (s_if (pt := 15) (pf := 17) (c_or (p1 := 4) (c_if_ltT (p1 := 1) (tg := 15) (e_iload_n (k0 := 1) d_X_back_0 rfl rfl) d_X_back_1 rfl) (c_icmp_leF (p1 := 5) (p2 := 12) (tg := 17) (e_iload_n (k0 := 1) d_X_back_4 rfl rfl) (e_gI (k0 := 1) (p1 := 9) cf_1 (e_gR (k0 := 0) (p1 := 6) cf_0 (e_aload_n (k0 := 0) d_X_back_5 rfl rfl) (by decide) tw_565 d_X_back_6) (by decide) tw_158 d_X_back_9) d_X_back_12 rfl)) (s_ret (p1 := 16) (e_iconst d_X_back_15 (by decide)) rfl d_X_back_16) s_skip) (s_seq (sl1 := [(0, 1), (1, 1)]) (p1 := 30) (s_fop (k0 := 1) (p1 := 21) (p2 := 26) cf_1 (e_gR (k0 := 0) (p1 := 18) cf_0 (e_aload_n (k0 := 0) d_X_back_17 rfl rfl) (by decide) tw_565 d_X_back_18) d_X_back_21 d_X_back_22 (e_iload_n (k0 := 1) d_X_back_25 rfl rfl) (op_isub d_X_back_26) (by decide) rfl tw_158 tw_158 rfl d_X_back_27) (s_ret (p1 := 37) (e_gI (k0 := 1) (p1 := 34) cf_1 (e_gR (k0 := 0) (p1 := 31) cf_0 (e_aload_n (k0 := 0) d_X_back_30 rfl rfl) (by decide) tw_565 d_X_back_31) (by decide) tw_158 d_X_back_34) rfl d_X_back_37))))
/-! BlinkerCross.read()I -/
abbrev y_X_read : MethodName := ⟨"BlinkerCross", "read", "()I"⟩
abbrev Y_X_read : Yt := (prog_1_method_4_code, 2, "BlinkerCross", 35, (some .int), "read")
theorem d_X_read_0 : decode prog_1_method_4_code 0 = .ok (.aload_n 0, 1) := by decide +kernel
theorem d_X_read_1 : decode prog_1_method_4_code 1 = .ok (.getfield 28, 3) := by decide +kernel
theorem d_X_read_4 : decode prog_1_method_4_code 4 = .ok (.invokevirtual 104, 3) := by decide +kernel
theorem d_X_read_7 : decode prog_1_method_4_code 7 = .ok (.istore_n 1, 1) := by decide +kernel
theorem d_X_read_8 : decode prog_1_method_4_code 8 = .ok (.aload_n 0, 1) := by decide +kernel
theorem d_X_read_9 : decode prog_1_method_4_code 9 = .ok (.getfield 12, 3) := by decide +kernel
theorem d_X_read_12 : decode prog_1_method_4_code 12 = .ok (.iconst 0, 1) := by decide +kernel
theorem d_X_read_13 : decode prog_1_method_4_code 13 = .ok (.putfield 96, 3) := by decide +kernel
theorem d_X_read_16 : decode prog_1_method_4_code 16 = .ok (.iload_n 1, 1) := by decide +kernel
theorem d_X_read_17 : decode prog_1_method_4_code 17 = .ok (.ifCond .ne 39, 3) := by decide +kernel
theorem d_X_read_20 : decode prog_1_method_4_code 20 = .ok (.aload_n 0, 1) := by decide +kernel
theorem d_X_read_21 : decode prog_1_method_4_code 21 = .ok (.getfield 19, 3) := by decide +kernel
theorem d_X_read_24 : decode prog_1_method_4_code 24 = .ok (.aload_n 0, 1) := by decide +kernel
theorem d_X_read_25 : decode prog_1_method_4_code 25 = .ok (.getfield 28, 3) := by decide +kernel
theorem d_X_read_28 : decode prog_1_method_4_code 28 = .ok (.getfield 108, 3) := by decide +kernel
theorem d_X_read_31 : decode prog_1_method_4_code 31 = .ok (.invokevirtual 111, 3) := by decide +kernel
theorem d_X_read_34 : decode prog_1_method_4_code 34 = .ok (.aload_n 0, 1) := by decide +kernel
theorem d_X_read_35 : decode prog_1_method_4_code 35 = .ok (.getfield 37, 3) := by decide +kernel
theorem d_X_read_38 : decode prog_1_method_4_code 38 = .ok (.invokevirtual 114, 3) := by decide +kernel
theorem d_X_read_41 : decode prog_1_method_4_code 41 = .ok (.aload_n 0, 1) := by decide +kernel
theorem d_X_read_42 : decode prog_1_method_4_code 42 = .ok (.getfield 92, 3) := by decide +kernel
theorem d_X_read_45 : decode prog_1_method_4_code 45 = .ok (.invokevirtual 117, 3) := by decide +kernel
theorem d_X_read_48 : decode prog_1_method_4_code 48 = .ok (.aload_n 0, 1) := by decide +kernel
theorem d_X_read_49 : decode prog_1_method_4_code 49 = .ok (.getfield 85, 3) := by decide +kernel
theorem d_X_read_52 : decode prog_1_method_4_code 52 = .ok (.iconst 0, 1) := by decide +kernel
theorem d_X_read_53 : decode prog_1_method_4_code 53 = .ok (.putfield 120, 3) := by decide +kernel
theorem d_X_read_56 : decode prog_1_method_4_code 56 = .ok (.iload_n 1, 1) := by decide +kernel
theorem d_X_read_57 : decode prog_1_method_4_code 57 = .ok (.ireturn, 1) := by decide +kernel
noncomputable def F_X_read : Sm := sSeq (sDecl (asV Value.int (cI (mV 3 D_Parser_check) [asV Value.ref (gR 0 2 (vR 0))]))) (sSeq (sPut 1 1 (gR 0 0 (vR 0)) (asV Value.int (kI (ii 0)))) (sSeq (sIf (o1 (fun x => decide (x = 0)) (vI 1)) (sSeq (sCall (mV 2 D_Text_become) [asV Value.ref (gR 0 1 (vR 0)), asV Value.ref (gR 3 0 (gR 0 2 (vR 0)))]) (sSeq (sCall (mV 4 D_Scene_begin) [asV Value.ref (gR 0 3 (vR 0))]) (sSeq (sCall (mV 11 D_History_clear) [asV Value.ref (gR 0 10 (vR 0))]) (sPut 10 0 (gR 0 9 (vR 0)) (asV Value.int (kI (ii 0))))))) (sSkip)) (sRet (asV Value.int (vI 1)))))
theorem mf_X_read : Mf y_X_read prog_1_method_4_code 2 (some .int) 0 := ⟨tw_614, tw_122, by decide +kernel⟩
noncomputable def D_X_read : Dn := runS [1] F_X_read
theorem ok_X_read : MOK y_X_read prog_1_method_4_code 2 (some .int) 35 0 0 D_X_read := MOK.of (by decide) (by decide) (show SO Y_X_read [(0, 1)] [(0, 1), (1, 1)] 0 58 (([], 0), ([], 0)) F_X_read from
  (s_seq (sl1 := [(0, 1), (1, 1)]) (p1 := 8) (s_decl (p1 := 7) (e_cI (p1 := 4) (a_cons (ι := Value.ref) (k0 := 1) (p1 := 4) (fun _ => rfl) (e_gR (k0 := 2) (p1 := 1) cf_0 (e_aload_n (k0 := 0) d_X_read_0 rfl rfl) (by decide) tw_567 d_X_read_1) a_nil) (k_virt ok_Parser_check mf_Parser_check ⟨tw_616, tw_617⟩ rfl tw_615 d_X_read_4 (by decide) (by decide) (by decide))) (t_istore_n d_X_read_7 rfl (by decide)) rfl) (s_seq (sl1 := [(0, 1), (1, 1)]) (p1 := 16) (s_put (k0 := 1) (p1 := 12) (p2 := 13) cf_1 (e_gR (k0 := 0) (p1 := 9) cf_0 (e_aload_n (k0 := 0) d_X_read_8 rfl rfl) (by decide) tw_565 d_X_read_9) (e_iconst d_X_read_12 (by decide)) (by decide) fk_i tw_158 (Or.inl rfl) d_X_read_13) (s_seq (sl1 := [(0, 1), (1, 1)]) (p1 := 56) (s_if (pt := 20) (pf := 56) (c_if_neF (p1 := 17) (tg := 56) (e_iload_n (k0 := 1) d_X_read_16 rfl rfl) d_X_read_17 rfl) (s_seq (sl1 := [(0, 1), (1, 1)]) (p1 := 34) (s_call (p1 := 31) (a_cons (ι := Value.ref) (k0 := 1) (p1 := 24) (fun _ => rfl) (e_gR (k0 := 1) (p1 := 21) cf_0 (e_aload_n (k0 := 0) d_X_read_20 rfl rfl) (by decide) tw_566 d_X_read_21) (a_cons (ι := Value.ref) (k0 := 1) (p1 := 31) (fun _ => rfl) (e_gR (k0 := 0) (p1 := 28) cf_3 (e_gR (k0 := 2) (p1 := 25) cf_0 (e_aload_n (k0 := 0) d_X_read_24 rfl rfl) (by decide) tw_567 d_X_read_25) (by decide) tw_272 d_X_read_28) a_nil)) (k_virt ok_Text_become mf_Text_become ⟨tw_849, tw_850⟩ rfl tw_848 d_X_read_31 (by decide) (by decide) (by decide))) (s_seq (sl1 := [(0, 1), (1, 1)]) (p1 := 41) (s_call (p1 := 38) (a_cons (ι := Value.ref) (k0 := 1) (p1 := 38) (fun _ => rfl) (e_gR (k0 := 3) (p1 := 35) cf_0 (e_aload_n (k0 := 0) d_X_read_34 rfl rfl) (by decide) tw_568 d_X_read_35) a_nil) (k_virt ok_Scene_begin mf_Scene_begin ⟨tw_856, tw_857⟩ rfl tw_855 d_X_read_38 (by decide) (by decide) (by decide))) (s_seq (sl1 := [(0, 1), (1, 1)]) (p1 := 48) (s_call (p1 := 45) (a_cons (ι := Value.ref) (k0 := 1) (p1 := 45) (fun _ => rfl) (e_gR (k0 := 10) (p1 := 42) cf_0 (e_aload_n (k0 := 0) d_X_read_41 rfl rfl) (by decide) tw_575 d_X_read_42) a_nil) (k_virt ok_History_clear mf_History_clear ⟨tw_877, tw_878⟩ rfl tw_876 d_X_read_45 (by decide) (by decide) (by decide))) (s_put (k0 := 0) (p1 := 52) (p2 := 53) cf_10 (e_gR (k0 := 9) (p1 := 49) cf_0 (e_aload_n (k0 := 0) d_X_read_48 rfl rfl) (by decide) tw_574 d_X_read_49) (e_iconst d_X_read_52 (by decide)) (by decide) fk_i tw_518 (Or.inl rfl) d_X_read_53)))) s_skip) (s_ret (p1 := 57) (e_iload_n (k0 := 1) d_X_read_56 rfl rfl) rfl d_X_read_57)))))
/-! BlinkerCross.place()I -/
abbrev y_X_place : MethodName := ⟨"BlinkerCross", "place", "()I"⟩
abbrev Y_X_place : Yt := (prog_1_method_5_code, 1, "BlinkerCross", 0, (some .int), "place")
theorem d_X_place_0 : decode prog_1_method_5_code 0 = .ok (.aload_n 0, 1) := by decide +kernel
theorem d_X_place_1 : decode prog_1_method_5_code 1 = .ok (.getfield 28, 3) := by decide +kernel
theorem d_X_place_4 : decode prog_1_method_5_code 4 = .ok (.getfield 123, 3) := by decide +kernel
theorem d_X_place_7 : decode prog_1_method_5_code 7 = .ok (.ireturn, 1) := by decide +kernel
noncomputable def F_X_place : Sm := sRet (asV Value.int (gI 3 1 (gR 0 2 (vR 0))))
theorem mf_X_place : Mf y_X_place prog_1_method_5_code 1 (some .int) 0 := ⟨tw_883, tw_122, by decide +kernel⟩
noncomputable def D_X_place : Dn := runS [1] F_X_place
theorem ok_X_place : MOK y_X_place prog_1_method_5_code 1 (some .int) 0 0 0 D_X_place := MOK.of (by decide) (by decide) (show SO Y_X_place [(0, 1)] [(0, 1)] 0 8 (([], 0), ([], 0)) F_X_place from
  (s_ret (p1 := 7) (e_gI (k0 := 1) (p1 := 4) cf_3 (e_gR (k0 := 2) (p1 := 1) cf_0 (e_aload_n (k0 := 0) d_X_place_0 rfl rfl) (by decide) tw_567 d_X_place_1) (by decide) tw_274 d_X_place_4) rfl d_X_place_7))
/-! BlinkerCross.isRoad(I)Z -/
abbrev y_X_isRoad : MethodName := ⟨"BlinkerCross", "isRoad", "(I)Z"⟩
abbrev Y_X_isRoad : Yt := (prog_1_method_39_code, 2, "BlinkerCross", 0, (some .boolean), "isRoad")
theorem d_X_isRoad_0 : decode prog_1_method_39_code 0 = .ok (.iload_n 1, 1) := by decide +kernel
theorem d_X_isRoad_1 : decode prog_1_method_39_code 1 = .ok (.ifCond .lt 18, 3) := by decide +kernel
theorem d_X_isRoad_4 : decode prog_1_method_39_code 4 = .ok (.iload_n 1, 1) := by decide +kernel
theorem d_X_isRoad_5 : decode prog_1_method_39_code 5 = .ok (.aload_n 0, 1) := by decide +kernel
theorem d_X_isRoad_6 : decode prog_1_method_39_code 6 = .ok (.getfield 19, 3) := by decide +kernel
theorem d_X_isRoad_9 : decode prog_1_method_39_code 9 = .ok (.getfield 265, 3) := by decide +kernel
theorem d_X_isRoad_12 : decode prog_1_method_39_code 12 = .ok (.if_icmp .ge 7, 3) := by decide +kernel
theorem d_X_isRoad_15 : decode prog_1_method_39_code 15 = .ok (.iconst 1, 1) := by decide +kernel
theorem d_X_isRoad_16 : decode prog_1_method_39_code 16 = .ok (.goto 4, 3) := by decide +kernel
theorem d_X_isRoad_19 : decode prog_1_method_39_code 19 = .ok (.iconst 0, 1) := by decide +kernel
theorem d_X_isRoad_20 : decode prog_1_method_39_code 20 = .ok (.ireturn, 1) := by decide +kernel
noncomputable def F_X_isRoad : Sm := sRetZ (bX (cAnd (o1 (fun x => decide (x ≥ 0)) (vI 1)) (o2 (fun x y => decide (x < y)) (vI 1) (gI 2 0 (gR 0 1 (vR 0))))))
theorem mf_X_isRoad : Mf y_X_isRoad prog_1_method_39_code 2 (some .boolean) 1 := ⟨tw_891, tw_122, by decide +kernel⟩
noncomputable def D_X_isRoad : Dn := runS [1, 1] F_X_isRoad
theorem ok_X_isRoad : MOK y_X_isRoad prog_1_method_39_code 2 (some .boolean) 0 0 0 D_X_isRoad := MOK.of (by decide) (by decide) (show SO Y_X_isRoad [(0, 1), (1, 1)] [(0, 1), (1, 1)] 0 21 (([], 0), ([], 0)) F_X_isRoad from
  (s_retZ (p1 := 20) (e_bool (pt := 15) (pf := 19) (c_and (p1 := 4) (c_if_ltF (p1 := 1) (tg := 19) (e_iload_n (k0 := 1) d_X_isRoad_0 rfl rfl) d_X_isRoad_1 rfl) (c_icmp_geF (p1 := 5) (p2 := 12) (tg := 19) (e_iload_n (k0 := 1) d_X_isRoad_4 rfl rfl) (e_gI (k0 := 0) (p1 := 9) cf_2 (e_gR (k0 := 1) (p1 := 6) cf_0 (e_aload_n (k0 := 0) d_X_isRoad_5 rfl rfl) (by decide) tw_566 d_X_isRoad_6) (by decide) tw_203 d_X_isRoad_9) d_X_isRoad_12 rfl)) d_X_isRoad_15 d_X_isRoad_16 rfl d_X_isRoad_19 rfl) rfl d_X_isRoad_20))
/-! BlinkerCross.road(II)I -/
abbrev y_X_road : MethodName := ⟨"BlinkerCross", "road", "(II)I"⟩
abbrev Y_X_road : Yt := (prog_1_method_6_code, 3, "BlinkerCross", 4, (some .int), "road")
theorem d_X_road_0 : decode prog_1_method_6_code 0 = .ok (.aload_n 0, 1) := by decide +kernel
theorem d_X_road_1 : decode prog_1_method_6_code 1 = .ok (.iload_n 1, 1) := by decide +kernel
theorem d_X_road_2 : decode prog_1_method_6_code 2 = .ok (.invokevirtual 126, 3) := by decide +kernel
theorem d_X_road_5 : decode prog_1_method_6_code 5 = .ok (.ifCond .ne 5, 3) := by decide +kernel
theorem d_X_road_8 : decode prog_1_method_6_code 8 = .ok (.iconst (-1), 1) := by decide +kernel
theorem d_X_road_9 : decode prog_1_method_6_code 9 = .ok (.ireturn, 1) := by decide +kernel
theorem d_X_road_10 : decode prog_1_method_6_code 10 = .ok (.iload_n 2, 1) := by decide +kernel
theorem d_X_road_11 : decode prog_1_method_6_code 11 = .ok (.tableswitch 67 0 3 #[29, 39, 49, 58], 29) := by decide +kernel
theorem d_X_road_40 : decode prog_1_method_6_code 40 = .ok (.aload_n 0, 1) := by decide +kernel
theorem d_X_road_41 : decode prog_1_method_6_code 41 = .ok (.getfield 19, 3) := by decide +kernel
theorem d_X_road_44 : decode prog_1_method_6_code 44 = .ok (.getfield 130, 3) := by decide +kernel
theorem d_X_road_47 : decode prog_1_method_6_code 47 = .ok (.iload_n 1, 1) := by decide +kernel
theorem d_X_road_48 : decode prog_1_method_6_code 48 = .ok (.iaload, 1) := by decide +kernel
theorem d_X_road_49 : decode prog_1_method_6_code 49 = .ok (.ireturn, 1) := by decide +kernel
theorem d_X_road_50 : decode prog_1_method_6_code 50 = .ok (.aload_n 0, 1) := by decide +kernel
theorem d_X_road_51 : decode prog_1_method_6_code 51 = .ok (.getfield 37, 3) := by decide +kernel
theorem d_X_road_54 : decode prog_1_method_6_code 54 = .ok (.getfield 134, 3) := by decide +kernel
theorem d_X_road_57 : decode prog_1_method_6_code 57 = .ok (.iload_n 1, 1) := by decide +kernel
theorem d_X_road_58 : decode prog_1_method_6_code 58 = .ok (.iaload, 1) := by decide +kernel
theorem d_X_road_59 : decode prog_1_method_6_code 59 = .ok (.ireturn, 1) := by decide +kernel
theorem d_X_road_60 : decode prog_1_method_6_code 60 = .ok (.aload_n 0, 1) := by decide +kernel
theorem d_X_road_61 : decode prog_1_method_6_code 61 = .ok (.getfield 37, 3) := by decide +kernel
theorem d_X_road_64 : decode prog_1_method_6_code 64 = .ok (.iload_n 1, 1) := by decide +kernel
theorem d_X_road_65 : decode prog_1_method_6_code 65 = .ok (.invokevirtual 137, 3) := by decide +kernel
theorem d_X_road_68 : decode prog_1_method_6_code 68 = .ok (.ireturn, 1) := by decide +kernel
theorem d_X_road_69 : decode prog_1_method_6_code 69 = .ok (.aload_n 0, 1) := by decide +kernel
theorem d_X_road_70 : decode prog_1_method_6_code 70 = .ok (.getfield 37, 3) := by decide +kernel
theorem d_X_road_73 : decode prog_1_method_6_code 73 = .ok (.iload_n 1, 1) := by decide +kernel
theorem d_X_road_74 : decode prog_1_method_6_code 74 = .ok (.invokevirtual 141, 3) := by decide +kernel
theorem d_X_road_77 : decode prog_1_method_6_code 77 = .ok (.ireturn, 1) := by decide +kernel
theorem d_X_road_78 : decode prog_1_method_6_code 78 = .ok (.iconst (-1), 1) := by decide +kernel
theorem d_X_road_79 : decode prog_1_method_6_code 79 = .ok (.ireturn, 1) := by decide +kernel
noncomputable def F_X_road : Sm := sSeq (sIf (cNot (o1 (fun x => decide (x ≠ 0)) (cI (mV 0 D_X_isRoad) [asV Value.ref (vR 0), asV Value.int (vI 1)]))) (sRet (asV Value.int (kI (ii (-1))))) (sSkip)) (sSw (vI 2) [(ii 0, sRet (asV Value.int (aI 0 (gR 2 3 (gR 0 1 (vR 0))) (vI 1)))), (ii 1, sRet (asV Value.int (aI 0 (gR 4 2 (gR 0 3 (vR 0))) (vI 1)))), (ii 2, sRet (asV Value.int (cI (mV 4 D_Scene_seersOf) [asV Value.ref (gR 0 3 (vR 0)), asV Value.int (vI 1)]))), (ii 3, sRet (asV Value.int (cI (mV 4 D_Scene_wantsFor) [asV Value.ref (gR 0 3 (vR 0)), asV Value.int (vI 1)])))] (sRet (asV Value.int (kI (ii (-1))))))
theorem mf_X_road : Mf y_X_road prog_1_method_6_code 3 (some .int) 2 := ⟨tw_887, tw_122, by decide +kernel⟩
noncomputable def D_X_road : Dn := runS [1, 1, 1] F_X_road
set_option maxRecDepth 100000 in
theorem ok_X_road : MOK y_X_road prog_1_method_6_code 3 (some .int) 4 0 0 D_X_road := MOK.of (by decide) (by decide) (show SO Y_X_road [(0, 1), (1, 1), (2, 1)] [(0, 1), (1, 1), (2, 1)] 0 0 (([], 0), ([], 0)) F_X_road from
  (s_seq (sl1 := [(0, 1), (1, 1), (2, 1)]) (p1 := 10) (s_if (pt := 8) (pf := 10) (c_not (c_if_neT (p1 := 5) (tg := 10) (e_cI (p1 := 2) (a_cons (ι := Value.ref) (k0 := 1) (p1 := 1) (fun _ => rfl) (e_aload_n (k0 := 0) d_X_road_0 rfl rfl) (a_cons (ι := Value.int) (k0 := 1) (p1 := 2) (fun _ => rfl) (e_iload_n (k0 := 1) d_X_road_1 rfl rfl) a_nil)) (k_virt ok_X_isRoad mf_X_isRoad ⟨tw_890, tw_23⟩ rfl tw_888 d_X_road_2 (by decide) (by decide) (by decide))) d_X_road_5 rfl)) (s_ret (p1 := 9) (e_iconst d_X_road_8 (by decide)) rfl d_X_road_9) s_skip) (s_tab (p1 := 11) (P := [(ii 0, 40), (ii 1, 50), (ii 2, 60), (ii 3, 69)]) (pd := 78) (jc := ([], 0)) (dflt := 67) (lo := 0) (hi := 3) (offs := #[29, 39, 49, 58]) (len := 29) (e_iload_n (k0 := 2) d_X_road_10 rfl rfl) d_X_road_11 (by decide) (by decide +kernel) ⟨rfl, (s_ret (p1 := 49) (e_iald (p1 := 47) (p2 := 48) (e_gR (k0 := 3) (p1 := 44) cf_2 (e_gR (k0 := 1) (p1 := 41) cf_0 (e_aload_n (k0 := 0) d_X_road_40 rfl rfl) (by decide) tw_566 d_X_road_41) (by decide) tw_218 d_X_road_44) (e_iload_n (k0 := 1) d_X_road_47 rfl rfl) d_X_road_48) rfl d_X_road_49), ⟨rfl, (s_ret (p1 := 59) (e_iald (p1 := 57) (p2 := 58) (e_gR (k0 := 2) (p1 := 54) cf_4 (e_gR (k0 := 3) (p1 := 51) cf_0 (e_aload_n (k0 := 0) d_X_road_50 rfl rfl) (by decide) tw_568 d_X_road_51) (by decide) tw_329 d_X_road_54) (e_iload_n (k0 := 1) d_X_road_57 rfl rfl) d_X_road_58) rfl d_X_road_59), ⟨rfl, (s_ret (p1 := 68) (e_cI (p1 := 65) (a_cons (ι := Value.ref) (k0 := 1) (p1 := 64) (fun _ => rfl) (e_gR (k0 := 3) (p1 := 61) cf_0 (e_aload_n (k0 := 0) d_X_road_60 rfl rfl) (by decide) tw_568 d_X_road_61) (a_cons (ι := Value.int) (k0 := 1) (p1 := 65) (fun _ => rfl) (e_iload_n (k0 := 1) d_X_road_64 rfl rfl) a_nil)) (k_virt ok_Scene_seersOf mf_Scene_seersOf ⟨tw_893, tw_894⟩ rfl tw_892 d_X_road_65 (by decide) (by decide) (by decide))) rfl d_X_road_68), ⟨rfl, (s_ret (p1 := 77) (e_cI (p1 := 74) (a_cons (ι := Value.ref) (k0 := 1) (p1 := 73) (fun _ => rfl) (e_gR (k0 := 3) (p1 := 70) cf_0 (e_aload_n (k0 := 0) d_X_road_69 rfl rfl) (by decide) tw_568 d_X_road_70) (a_cons (ι := Value.int) (k0 := 1) (p1 := 74) (fun _ => rfl) (e_iload_n (k0 := 1) d_X_road_73 rfl rfl) a_nil)) (k_virt ok_Scene_wantsFor mf_Scene_wantsFor ⟨tw_906, tw_907⟩ rfl tw_905 d_X_road_74 (by decide) (by decide) (by decide))) rfl d_X_road_77), trivial⟩⟩⟩⟩ (s_ret (p1 := 79) (e_iconst d_X_road_78 (by decide)) rfl d_X_road_79))))
/-! BlinkerCross.isGoer(I)Z -/
abbrev y_X_isGoer : MethodName := ⟨"BlinkerCross", "isGoer", "(I)Z"⟩
abbrev Y_X_isGoer : Yt := (prog_1_method_40_code, 2, "BlinkerCross", 0, (some .boolean), "isGoer")
theorem d_X_isGoer_0 : decode prog_1_method_40_code 0 = .ok (.iload_n 1, 1) := by decide +kernel
theorem d_X_isGoer_1 : decode prog_1_method_40_code 1 = .ok (.ifCond .lt 18, 3) := by decide +kernel
theorem d_X_isGoer_4 : decode prog_1_method_40_code 4 = .ok (.iload_n 1, 1) := by decide +kernel
theorem d_X_isGoer_5 : decode prog_1_method_40_code 5 = .ok (.aload_n 0, 1) := by decide +kernel
theorem d_X_isGoer_6 : decode prog_1_method_40_code 6 = .ok (.getfield 19, 3) := by decide +kernel
theorem d_X_isGoer_9 : decode prog_1_method_40_code 9 = .ok (.getfield 203, 3) := by decide +kernel
theorem d_X_isGoer_12 : decode prog_1_method_40_code 12 = .ok (.if_icmp .ge 7, 3) := by decide +kernel
theorem d_X_isGoer_15 : decode prog_1_method_40_code 15 = .ok (.iconst 1, 1) := by decide +kernel
theorem d_X_isGoer_16 : decode prog_1_method_40_code 16 = .ok (.goto 4, 3) := by decide +kernel
theorem d_X_isGoer_19 : decode prog_1_method_40_code 19 = .ok (.iconst 0, 1) := by decide +kernel
theorem d_X_isGoer_20 : decode prog_1_method_40_code 20 = .ok (.ireturn, 1) := by decide +kernel
noncomputable def F_X_isGoer : Sm := sRetZ (bX (cAnd (o1 (fun x => decide (x ≥ 0)) (vI 1)) (o2 (fun x y => decide (x < y)) (vI 1) (gI 2 1 (gR 0 1 (vR 0))))))
theorem mf_X_isGoer : Mf y_X_isGoer prog_1_method_40_code 2 (some .boolean) 1 := ⟨tw_916, tw_122, by decide +kernel⟩
noncomputable def D_X_isGoer : Dn := runS [1, 1] F_X_isGoer
theorem ok_X_isGoer : MOK y_X_isGoer prog_1_method_40_code 2 (some .boolean) 0 0 0 D_X_isGoer := MOK.of (by decide) (by decide) (show SO Y_X_isGoer [(0, 1), (1, 1)] [(0, 1), (1, 1)] 0 21 (([], 0), ([], 0)) F_X_isGoer from
  (s_retZ (p1 := 20) (e_bool (pt := 15) (pf := 19) (c_and (p1 := 4) (c_if_ltF (p1 := 1) (tg := 19) (e_iload_n (k0 := 1) d_X_isGoer_0 rfl rfl) d_X_isGoer_1 rfl) (c_icmp_geF (p1 := 5) (p2 := 12) (tg := 19) (e_iload_n (k0 := 1) d_X_isGoer_4 rfl rfl) (e_gI (k0 := 1) (p1 := 9) cf_2 (e_gR (k0 := 1) (p1 := 6) cf_0 (e_aload_n (k0 := 0) d_X_isGoer_5 rfl rfl) (by decide) tw_566 d_X_isGoer_6) (by decide) tw_213 d_X_isGoer_9) d_X_isGoer_12 rfl)) d_X_isGoer_15 d_X_isGoer_16 rfl d_X_isGoer_19 rfl) rfl d_X_isGoer_20))
/-! BlinkerCross.goer(II)I -/
abbrev y_X_goer : MethodName := ⟨"BlinkerCross", "goer", "(II)I"⟩
abbrev Y_X_goer : Yt := (prog_1_method_7_code, 3, "BlinkerCross", 3, (some .int), "goer")
theorem d_X_goer_0 : decode prog_1_method_7_code 0 = .ok (.aload_n 0, 1) := by decide +kernel
theorem d_X_goer_1 : decode prog_1_method_7_code 1 = .ok (.iload_n 1, 1) := by decide +kernel
theorem d_X_goer_2 : decode prog_1_method_7_code 2 = .ok (.invokevirtual 144, 3) := by decide +kernel
theorem d_X_goer_5 : decode prog_1_method_7_code 5 = .ok (.ifCond .ne 5, 3) := by decide +kernel
theorem d_X_goer_8 : decode prog_1_method_7_code 8 = .ok (.iconst (-1), 1) := by decide +kernel
theorem d_X_goer_9 : decode prog_1_method_7_code 9 = .ok (.ireturn, 1) := by decide +kernel
theorem d_X_goer_10 : decode prog_1_method_7_code 10 = .ok (.aload_n 0, 1) := by decide +kernel
theorem d_X_goer_11 : decode prog_1_method_7_code 11 = .ok (.getfield 44, 3) := by decide +kernel
theorem d_X_goer_14 : decode prog_1_method_7_code 14 = .ok (.aload_n 0, 1) := by decide +kernel
theorem d_X_goer_15 : decode prog_1_method_7_code 15 = .ok (.getfield 37, 3) := by decide +kernel
theorem d_X_goer_18 : decode prog_1_method_7_code 18 = .ok (.iload_n 1, 1) := by decide +kernel
theorem d_X_goer_19 : decode prog_1_method_7_code 19 = .ok (.invokevirtual 147, 3) := by decide +kernel
theorem d_X_goer_22 : decode prog_1_method_7_code 22 = .ok (.iload_n 2, 1) := by decide +kernel
theorem d_X_goer_23 : decode prog_1_method_7_code 23 = .ok (.tableswitch 185 0 10 #[57, 69, 81, 94, 104, 112, 130, 139, 152, 168, 176], 57) := by decide +kernel
theorem d_X_goer_80 : decode prog_1_method_7_code 80 = .ok (.aload_n 0, 1) := by decide +kernel
theorem d_X_goer_81 : decode prog_1_method_7_code 81 = .ok (.getfield 37, 3) := by decide +kernel
theorem d_X_goer_84 : decode prog_1_method_7_code 84 = .ok (.getfield 151, 3) := by decide +kernel
theorem d_X_goer_87 : decode prog_1_method_7_code 87 = .ok (.iconst 0, 1) := by decide +kernel
theorem d_X_goer_88 : decode prog_1_method_7_code 88 = .ok (.iload_n 1, 1) := by decide +kernel
theorem d_X_goer_89 : decode prog_1_method_7_code 89 = .ok (.iadd, 1) := by decide +kernel
theorem d_X_goer_90 : decode prog_1_method_7_code 90 = .ok (.iaload, 1) := by decide +kernel
theorem d_X_goer_91 : decode prog_1_method_7_code 91 = .ok (.ireturn, 1) := by decide +kernel
theorem d_X_goer_92 : decode prog_1_method_7_code 92 = .ok (.aload_n 0, 1) := by decide +kernel
theorem d_X_goer_93 : decode prog_1_method_7_code 93 = .ok (.getfield 37, 3) := by decide +kernel
theorem d_X_goer_96 : decode prog_1_method_7_code 96 = .ok (.getfield 151, 3) := by decide +kernel
theorem d_X_goer_99 : decode prog_1_method_7_code 99 = .ok (.iconst 5, 1) := by decide +kernel
theorem d_X_goer_100 : decode prog_1_method_7_code 100 = .ok (.iload_n 1, 1) := by decide +kernel
theorem d_X_goer_101 : decode prog_1_method_7_code 101 = .ok (.iadd, 1) := by decide +kernel
theorem d_X_goer_102 : decode prog_1_method_7_code 102 = .ok (.iaload, 1) := by decide +kernel
theorem d_X_goer_103 : decode prog_1_method_7_code 103 = .ok (.ireturn, 1) := by decide +kernel
theorem d_X_goer_104 : decode prog_1_method_7_code 104 = .ok (.aload_n 0, 1) := by decide +kernel
theorem d_X_goer_105 : decode prog_1_method_7_code 105 = .ok (.getfield 37, 3) := by decide +kernel
theorem d_X_goer_108 : decode prog_1_method_7_code 108 = .ok (.getfield 151, 3) := by decide +kernel
theorem d_X_goer_111 : decode prog_1_method_7_code 111 = .ok (.bipush 10, 2) := by decide +kernel
theorem d_X_goer_113 : decode prog_1_method_7_code 113 = .ok (.iload_n 1, 1) := by decide +kernel
theorem d_X_goer_114 : decode prog_1_method_7_code 114 = .ok (.iadd, 1) := by decide +kernel
theorem d_X_goer_115 : decode prog_1_method_7_code 115 = .ok (.iaload, 1) := by decide +kernel
theorem d_X_goer_116 : decode prog_1_method_7_code 116 = .ok (.ireturn, 1) := by decide +kernel
theorem d_X_goer_117 : decode prog_1_method_7_code 117 = .ok (.aload_n 0, 1) := by decide +kernel
theorem d_X_goer_118 : decode prog_1_method_7_code 118 = .ok (.getfield 37, 3) := by decide +kernel
theorem d_X_goer_121 : decode prog_1_method_7_code 121 = .ok (.getfield 154, 3) := by decide +kernel
theorem d_X_goer_124 : decode prog_1_method_7_code 124 = .ok (.iload_n 1, 1) := by decide +kernel
theorem d_X_goer_125 : decode prog_1_method_7_code 125 = .ok (.iaload, 1) := by decide +kernel
theorem d_X_goer_126 : decode prog_1_method_7_code 126 = .ok (.ireturn, 1) := by decide +kernel
theorem d_X_goer_127 : decode prog_1_method_7_code 127 = .ok (.aload_n 0, 1) := by decide +kernel
theorem d_X_goer_128 : decode prog_1_method_7_code 128 = .ok (.getfield 44, 3) := by decide +kernel
theorem d_X_goer_131 : decode prog_1_method_7_code 131 = .ok (.invokevirtual 157, 3) := by decide +kernel
theorem d_X_goer_134 : decode prog_1_method_7_code 134 = .ok (.ireturn, 1) := by decide +kernel
theorem d_X_goer_135 : decode prog_1_method_7_code 135 = .ok (.aload_n 0, 1) := by decide +kernel
theorem d_X_goer_136 : decode prog_1_method_7_code 136 = .ok (.getfield 37, 3) := by decide +kernel
theorem d_X_goer_139 : decode prog_1_method_7_code 139 = .ok (.iload_n 1, 1) := by decide +kernel
theorem d_X_goer_140 : decode prog_1_method_7_code 140 = .ok (.aload_n 0, 1) := by decide +kernel
theorem d_X_goer_141 : decode prog_1_method_7_code 141 = .ok (.getfield 37, 3) := by decide +kernel
theorem d_X_goer_144 : decode prog_1_method_7_code 144 = .ok (.getfield 154, 3) := by decide +kernel
theorem d_X_goer_147 : decode prog_1_method_7_code 147 = .ok (.iload_n 1, 1) := by decide +kernel
theorem d_X_goer_148 : decode prog_1_method_7_code 148 = .ok (.iaload, 1) := by decide +kernel
theorem d_X_goer_149 : decode prog_1_method_7_code 149 = .ok (.invokevirtual 160, 3) := by decide +kernel
theorem d_X_goer_152 : decode prog_1_method_7_code 152 = .ok (.ireturn, 1) := by decide +kernel
theorem d_X_goer_153 : decode prog_1_method_7_code 153 = .ok (.aload_n 0, 1) := by decide +kernel
theorem d_X_goer_154 : decode prog_1_method_7_code 154 = .ok (.getfield 37, 3) := by decide +kernel
theorem d_X_goer_157 : decode prog_1_method_7_code 157 = .ok (.iload_n 1, 1) := by decide +kernel
theorem d_X_goer_158 : decode prog_1_method_7_code 158 = .ok (.invokevirtual 164, 3) := by decide +kernel
theorem d_X_goer_161 : decode prog_1_method_7_code 161 = .ok (.ireturn, 1) := by decide +kernel
theorem d_X_goer_162 : decode prog_1_method_7_code 162 = .ok (.aload_n 0, 1) := by decide +kernel
theorem d_X_goer_163 : decode prog_1_method_7_code 163 = .ok (.getfield 37, 3) := by decide +kernel
theorem d_X_goer_166 : decode prog_1_method_7_code 166 = .ok (.getfield 151, 3) := by decide +kernel
theorem d_X_goer_169 : decode prog_1_method_7_code 169 = .ok (.bipush 15, 2) := by decide +kernel
theorem d_X_goer_171 : decode prog_1_method_7_code 171 = .ok (.iload_n 1, 1) := by decide +kernel
theorem d_X_goer_172 : decode prog_1_method_7_code 172 = .ok (.iadd, 1) := by decide +kernel
theorem d_X_goer_173 : decode prog_1_method_7_code 173 = .ok (.iaload, 1) := by decide +kernel
theorem d_X_goer_174 : decode prog_1_method_7_code 174 = .ok (.ireturn, 1) := by decide +kernel
theorem d_X_goer_175 : decode prog_1_method_7_code 175 = .ok (.aload_n 0, 1) := by decide +kernel
theorem d_X_goer_176 : decode prog_1_method_7_code 176 = .ok (.getfield 44, 3) := by decide +kernel
theorem d_X_goer_179 : decode prog_1_method_7_code 179 = .ok (.invokevirtual 167, 3) := by decide +kernel
theorem d_X_goer_182 : decode prog_1_method_7_code 182 = .ok (.ifCond .eq 7, 3) := by decide +kernel
theorem d_X_goer_185 : decode prog_1_method_7_code 185 = .ok (.iconst 1, 1) := by decide +kernel
theorem d_X_goer_186 : decode prog_1_method_7_code 186 = .ok (.goto 4, 3) := by decide +kernel
theorem d_X_goer_189 : decode prog_1_method_7_code 189 = .ok (.iconst 0, 1) := by decide +kernel
theorem d_X_goer_190 : decode prog_1_method_7_code 190 = .ok (.ireturn, 1) := by decide +kernel
theorem d_X_goer_191 : decode prog_1_method_7_code 191 = .ok (.aload_n 0, 1) := by decide +kernel
theorem d_X_goer_192 : decode prog_1_method_7_code 192 = .ok (.getfield 44, 3) := by decide +kernel
theorem d_X_goer_195 : decode prog_1_method_7_code 195 = .ok (.invokevirtual 171, 3) := by decide +kernel
theorem d_X_goer_198 : decode prog_1_method_7_code 198 = .ok (.ireturn, 1) := by decide +kernel
theorem d_X_goer_199 : decode prog_1_method_7_code 199 = .ok (.aload_n 0, 1) := by decide +kernel
theorem d_X_goer_200 : decode prog_1_method_7_code 200 = .ok (.getfield 37, 3) := by decide +kernel
theorem d_X_goer_203 : decode prog_1_method_7_code 203 = .ok (.iload_n 1, 1) := by decide +kernel
theorem d_X_goer_204 : decode prog_1_method_7_code 204 = .ok (.invokevirtual 174, 3) := by decide +kernel
theorem d_X_goer_207 : decode prog_1_method_7_code 207 = .ok (.ireturn, 1) := by decide +kernel
theorem d_X_goer_208 : decode prog_1_method_7_code 208 = .ok (.iconst (-1), 1) := by decide +kernel
theorem d_X_goer_209 : decode prog_1_method_7_code 209 = .ok (.ireturn, 1) := by decide +kernel
noncomputable def F_X_goer : Sm := sSeq (sIf (cNot (o1 (fun x => decide (x ≠ 0)) (cI (mV 0 D_X_isGoer) [asV Value.ref (vR 0), asV Value.int (vI 1)]))) (sRet (asV Value.int (kI (ii (-1))))) (sSkip)) (sSeq (sCall (mV 5 D_Laws_meet) [asV Value.ref (gR 0 4 (vR 0)), asV Value.ref (gR 0 3 (vR 0)), asV Value.int (vI 1)]) (sSw (vI 2) [(ii 0, sRet (asV Value.int (aI 0 (gR 4 0 (gR 0 3 (vR 0))) (o2 (fun x y => x + y) (kI (ii 0)) (vI 1))))), (ii 1, sRet (asV Value.int (aI 0 (gR 4 0 (gR 0 3 (vR 0))) (o2 (fun x y => x + y) (kI (ii 5)) (vI 1))))), (ii 2, sRet (asV Value.int (aI 0 (gR 4 0 (gR 0 3 (vR 0))) (o2 (fun x y => x + y) (kI (ii 10)) (vI 1))))), (ii 3, sRet (asV Value.int (aI 0 (gR 4 1 (gR 0 3 (vR 0))) (vI 1)))), (ii 4, sRet (asV Value.int (cI (mV 5 D_Laws_heldStands) [asV Value.ref (gR 0 4 (vR 0))]))), (ii 5, sRet (asV Value.int (cI (mV 4 D_Scene_missedBy) [asV Value.ref (gR 0 3 (vR 0)), asV Value.int (vI 1), asV Value.int (aI 0 (gR 4 1 (gR 0 3 (vR 0))) (vI 1))]))), (ii 6, sRet (asV Value.int (cI (mV 4 D_Scene_seenCount) [asV Value.ref (gR 0 3 (vR 0)), asV Value.int (vI 1)]))), (ii 7, sRet (asV Value.int (aI 0 (gR 4 0 (gR 0 3 (vR 0))) (o2 (fun x y => x + y) (kI (ii 15)) (vI 1))))), (ii 8, sRet (asV Value.int (iX (o1 (fun x => decide (x ≠ 0)) (cI (mV 5 D_Laws_isKeeping) [asV Value.ref (gR 0 4 (vR 0))])) (kI (ii 1)) (kI (ii 0))))), (ii 9, sRet (asV Value.int (cI (mV 5 D_Laws_heldTurns) [asV Value.ref (gR 0 4 (vR 0))]))), (ii 10, sRet (asV Value.int (cI (mV 4 D_Scene_seenBits) [asV Value.ref (gR 0 3 (vR 0)), asV Value.int (vI 1)])))] (sRet (asV Value.int (kI (ii (-1)))))))
theorem mf_X_goer : Mf y_X_goer prog_1_method_7_code 3 (some .int) 2 := ⟨tw_912, tw_122, by decide +kernel⟩
noncomputable def D_X_goer : Dn := runS [1, 1, 1] F_X_goer
set_option maxRecDepth 100000 in
theorem ok_X_goer : MOK y_X_goer prog_1_method_7_code 3 (some .int) 3 0 0 D_X_goer := MOK.of (by decide) (by decide) (show SO Y_X_goer [(0, 1), (1, 1), (2, 1)] [(0, 1), (1, 1), (2, 1)] 0 0 (([], 0), ([], 0)) F_X_goer from
  (s_seq (sl1 := [(0, 1), (1, 1), (2, 1)]) (p1 := 10) (s_if (pt := 8) (pf := 10) (c_not (c_if_neT (p1 := 5) (tg := 10) (e_cI (p1 := 2) (a_cons (ι := Value.ref) (k0 := 1) (p1 := 1) (fun _ => rfl) (e_aload_n (k0 := 0) d_X_goer_0 rfl rfl) (a_cons (ι := Value.int) (k0 := 1) (p1 := 2) (fun _ => rfl) (e_iload_n (k0 := 1) d_X_goer_1 rfl rfl) a_nil)) (k_virt ok_X_isGoer mf_X_isGoer ⟨tw_915, tw_24⟩ rfl tw_913 d_X_goer_2 (by decide) (by decide) (by decide))) d_X_goer_5 rfl)) (s_ret (p1 := 9) (e_iconst d_X_goer_8 (by decide)) rfl d_X_goer_9) s_skip) (s_seq (sl1 := [(0, 1), (1, 1), (2, 1)]) (p1 := 22) (s_call (p1 := 19) (a_cons (ι := Value.ref) (k0 := 1) (p1 := 14) (fun _ => rfl) (e_gR (k0 := 4) (p1 := 11) cf_0 (e_aload_n (k0 := 0) d_X_goer_10 rfl rfl) (by decide) tw_569 d_X_goer_11) (a_cons (ι := Value.ref) (k0 := 1) (p1 := 18) (fun _ => rfl) (e_gR (k0 := 3) (p1 := 15) cf_0 (e_aload_n (k0 := 0) d_X_goer_14 rfl rfl) (by decide) tw_568 d_X_goer_15) (a_cons (ι := Value.int) (k0 := 1) (p1 := 19) (fun _ => rfl) (e_iload_n (k0 := 1) d_X_goer_18 rfl rfl) a_nil))) (k_virt ok_Laws_meet mf_Laws_meet ⟨tw_918, tw_919⟩ rfl tw_917 d_X_goer_19 (by decide) (by decide) (by decide))) (s_tab (p1 := 23) (P := [(ii 0, 80), (ii 1, 92), (ii 2, 104), (ii 3, 117), (ii 4, 127), (ii 5, 135), (ii 6, 153), (ii 7, 162), (ii 8, 175), (ii 9, 191), (ii 10, 199)]) (pd := 208) (jc := ([], 0)) (dflt := 185) (lo := 0) (hi := 10) (offs := #[57, 69, 81, 94, 104, 112, 130, 139, 152, 168, 176]) (len := 57) (e_iload_n (k0 := 2) d_X_goer_22 rfl rfl) d_X_goer_23 (by decide) (by decide +kernel) ⟨rfl, (s_ret (p1 := 91) (e_iald (p1 := 87) (p2 := 90) (e_gR (k0 := 0) (p1 := 84) cf_4 (e_gR (k0 := 3) (p1 := 81) cf_0 (e_aload_n (k0 := 0) d_X_goer_80 rfl rfl) (by decide) tw_568 d_X_goer_81) (by decide) tw_320 d_X_goer_84) (e_iadd (p1 := 88) (p2 := 89) (e_iconst d_X_goer_87 (by decide)) (e_iload_n (k0 := 1) d_X_goer_88 rfl rfl) d_X_goer_89) d_X_goer_90) rfl d_X_goer_91), ⟨rfl, (s_ret (p1 := 103) (e_iald (p1 := 99) (p2 := 102) (e_gR (k0 := 0) (p1 := 96) cf_4 (e_gR (k0 := 3) (p1 := 93) cf_0 (e_aload_n (k0 := 0) d_X_goer_92 rfl rfl) (by decide) tw_568 d_X_goer_93) (by decide) tw_320 d_X_goer_96) (e_iadd (p1 := 100) (p2 := 101) (e_iconst d_X_goer_99 (by decide)) (e_iload_n (k0 := 1) d_X_goer_100 rfl rfl) d_X_goer_101) d_X_goer_102) rfl d_X_goer_103), ⟨rfl, (s_ret (p1 := 116) (e_iald (p1 := 111) (p2 := 115) (e_gR (k0 := 0) (p1 := 108) cf_4 (e_gR (k0 := 3) (p1 := 105) cf_0 (e_aload_n (k0 := 0) d_X_goer_104 rfl rfl) (by decide) tw_568 d_X_goer_105) (by decide) tw_320 d_X_goer_108) (e_iadd (p1 := 113) (p2 := 114) (e_bipush d_X_goer_111 (by decide)) (e_iload_n (k0 := 1) d_X_goer_113 rfl rfl) d_X_goer_114) d_X_goer_115) rfl d_X_goer_116), ⟨rfl, (s_ret (p1 := 126) (e_iald (p1 := 124) (p2 := 125) (e_gR (k0 := 1) (p1 := 121) cf_4 (e_gR (k0 := 3) (p1 := 118) cf_0 (e_aload_n (k0 := 0) d_X_goer_117 rfl rfl) (by decide) tw_568 d_X_goer_118) (by decide) tw_326 d_X_goer_121) (e_iload_n (k0 := 1) d_X_goer_124 rfl rfl) d_X_goer_125) rfl d_X_goer_126), ⟨rfl, (s_ret (p1 := 134) (e_cI (p1 := 131) (a_cons (ι := Value.ref) (k0 := 1) (p1 := 131) (fun _ => rfl) (e_gR (k0 := 4) (p1 := 128) cf_0 (e_aload_n (k0 := 0) d_X_goer_127 rfl rfl) (by decide) tw_569 d_X_goer_128) a_nil) (k_virt ok_Laws_heldStands mf_Laws_heldStands ⟨tw_933, tw_934⟩ rfl tw_932 d_X_goer_131 (by decide) (by decide) (by decide))) rfl d_X_goer_134), ⟨rfl, (s_ret (p1 := 152) (e_cI (p1 := 149) (a_cons (ι := Value.ref) (k0 := 1) (p1 := 139) (fun _ => rfl) (e_gR (k0 := 3) (p1 := 136) cf_0 (e_aload_n (k0 := 0) d_X_goer_135 rfl rfl) (by decide) tw_568 d_X_goer_136) (a_cons (ι := Value.int) (k0 := 1) (p1 := 140) (fun _ => rfl) (e_iload_n (k0 := 1) d_X_goer_139 rfl rfl) (a_cons (ι := Value.int) (k0 := 1) (p1 := 149) (fun _ => rfl) (e_iald (p1 := 147) (p2 := 148) (e_gR (k0 := 1) (p1 := 144) cf_4 (e_gR (k0 := 3) (p1 := 141) cf_0 (e_aload_n (k0 := 0) d_X_goer_140 rfl rfl) (by decide) tw_568 d_X_goer_141) (by decide) tw_326 d_X_goer_144) (e_iload_n (k0 := 1) d_X_goer_147 rfl rfl) d_X_goer_148) a_nil))) (k_virt ok_Scene_missedBy mf_Scene_missedBy ⟨tw_949, tw_950⟩ rfl tw_948 d_X_goer_149 (by decide) (by decide) (by decide))) rfl d_X_goer_152), ⟨rfl, (s_ret (p1 := 161) (e_cI (p1 := 158) (a_cons (ι := Value.ref) (k0 := 1) (p1 := 157) (fun _ => rfl) (e_gR (k0 := 3) (p1 := 154) cf_0 (e_aload_n (k0 := 0) d_X_goer_153 rfl rfl) (by decide) tw_568 d_X_goer_154) (a_cons (ι := Value.int) (k0 := 1) (p1 := 158) (fun _ => rfl) (e_iload_n (k0 := 1) d_X_goer_157 rfl rfl) a_nil)) (k_virt ok_Scene_seenCount mf_Scene_seenCount ⟨tw_901, tw_902⟩ rfl tw_952 d_X_goer_158 (by decide) (by decide) (by decide))) rfl d_X_goer_161), ⟨rfl, (s_ret (p1 := 174) (e_iald (p1 := 169) (p2 := 173) (e_gR (k0 := 0) (p1 := 166) cf_4 (e_gR (k0 := 3) (p1 := 163) cf_0 (e_aload_n (k0 := 0) d_X_goer_162 rfl rfl) (by decide) tw_568 d_X_goer_163) (by decide) tw_320 d_X_goer_166) (e_iadd (p1 := 171) (p2 := 172) (e_bipush d_X_goer_169 (by decide)) (e_iload_n (k0 := 1) d_X_goer_171 rfl rfl) d_X_goer_172) d_X_goer_173) rfl d_X_goer_174), ⟨rfl, (s_ret (p1 := 190) (e_ite (pt := 185) (p1 := 186) (pf := 189) (c_if_eqF (p1 := 182) (tg := 189) (e_cI (p1 := 179) (a_cons (ι := Value.ref) (k0 := 1) (p1 := 179) (fun _ => rfl) (e_gR (k0 := 4) (p1 := 176) cf_0 (e_aload_n (k0 := 0) d_X_goer_175 rfl rfl) (by decide) tw_569 d_X_goer_176) a_nil) (k_virt ok_Laws_isKeeping mf_Laws_isKeeping ⟨tw_954, tw_955⟩ rfl tw_953 d_X_goer_179 (by decide) (by decide) (by decide))) d_X_goer_182 rfl) (e_iconst d_X_goer_185 (by decide)) d_X_goer_186 rfl (e_iconst d_X_goer_189 (by decide))) rfl d_X_goer_190), ⟨rfl, (s_ret (p1 := 198) (e_cI (p1 := 195) (a_cons (ι := Value.ref) (k0 := 1) (p1 := 195) (fun _ => rfl) (e_gR (k0 := 4) (p1 := 192) cf_0 (e_aload_n (k0 := 0) d_X_goer_191 rfl rfl) (by decide) tw_569 d_X_goer_192) a_nil) (k_virt ok_Laws_heldTurns mf_Laws_heldTurns ⟨tw_958, tw_959⟩ rfl tw_957 d_X_goer_195 (by decide) (by decide) (by decide))) rfl d_X_goer_198), ⟨rfl, (s_ret (p1 := 207) (e_cI (p1 := 204) (a_cons (ι := Value.ref) (k0 := 1) (p1 := 203) (fun _ => rfl) (e_gR (k0 := 3) (p1 := 200) cf_0 (e_aload_n (k0 := 0) d_X_goer_199 rfl rfl) (by decide) tw_568 d_X_goer_200) (a_cons (ι := Value.int) (k0 := 1) (p1 := 204) (fun _ => rfl) (e_iload_n (k0 := 1) d_X_goer_203 rfl rfl) a_nil)) (k_virt ok_Scene_seenBits mf_Scene_seenBits ⟨tw_897, tw_898⟩ rfl tw_961 d_X_goer_204 (by decide) (by decide) (by decide))) rfl d_X_goer_207), trivial⟩⟩⟩⟩⟩⟩⟩⟩⟩⟩⟩ (s_ret (p1 := 209) (e_iconst d_X_goer_208 (by decide)) rfl d_X_goer_209)))))
/-! BlinkerCross.gained(I)I -/
abbrev y_X_gained : MethodName := ⟨"BlinkerCross", "gained", "(I)I"⟩
abbrev Y_X_gained : Yt := (prog_1_method_8_code, 2, "BlinkerCross", 1, (some .int), "gained")
theorem d_X_gained_0 : decode prog_1_method_8_code 0 = .ok (.aload_n 0, 1) := by decide +kernel
theorem d_X_gained_1 : decode prog_1_method_8_code 1 = .ok (.iload_n 1, 1) := by decide +kernel
theorem d_X_gained_2 : decode prog_1_method_8_code 2 = .ok (.invokevirtual 144, 3) := by decide +kernel
theorem d_X_gained_5 : decode prog_1_method_8_code 5 = .ok (.ifCond .eq 18, 3) := by decide +kernel
theorem d_X_gained_8 : decode prog_1_method_8_code 8 = .ok (.aload_n 0, 1) := by decide +kernel
theorem d_X_gained_9 : decode prog_1_method_8_code 9 = .ok (.getfield 37, 3) := by decide +kernel
theorem d_X_gained_12 : decode prog_1_method_8_code 12 = .ok (.getfield 151, 3) := by decide +kernel
theorem d_X_gained_15 : decode prog_1_method_8_code 15 = .ok (.bipush 20, 2) := by decide +kernel
theorem d_X_gained_17 : decode prog_1_method_8_code 17 = .ok (.iload_n 1, 1) := by decide +kernel
theorem d_X_gained_18 : decode prog_1_method_8_code 18 = .ok (.iadd, 1) := by decide +kernel
theorem d_X_gained_19 : decode prog_1_method_8_code 19 = .ok (.iaload, 1) := by decide +kernel
theorem d_X_gained_20 : decode prog_1_method_8_code 20 = .ok (.goto 5, 3) := by decide +kernel
theorem d_X_gained_23 : decode prog_1_method_8_code 23 = .ok (.ldc 177, 2) := by decide +kernel
theorem d_X_gained_25 : decode prog_1_method_8_code 25 = .ok (.ireturn, 1) := by decide +kernel
noncomputable def F_X_gained : Sm := sRet (asV Value.int (iX (o1 (fun x => decide (x ≠ 0)) (cI (mV 0 D_X_isGoer) [asV Value.ref (vR 0), asV Value.int (vI 1)])) (aI 0 (gR 4 0 (gR 0 3 (vR 0))) (o2 (fun x y => x + y) (kI (ii 20)) (vI 1))) (kI (ii (-100000)))))
theorem mf_X_gained : Mf y_X_gained prog_1_method_8_code 2 (some .int) 1 := ⟨tw_965, tw_122, by decide +kernel⟩
noncomputable def D_X_gained : Dn := runS [1, 1] F_X_gained
theorem ok_X_gained : MOK y_X_gained prog_1_method_8_code 2 (some .int) 1 0 0 D_X_gained := MOK.of (by decide) (by decide) (show SO Y_X_gained [(0, 1), (1, 1)] [(0, 1), (1, 1)] 0 26 (([], 0), ([], 0)) F_X_gained from
  (s_ret (p1 := 25) (e_ite (pt := 8) (p1 := 20) (pf := 23) (c_if_eqF (p1 := 5) (tg := 23) (e_cI (p1 := 2) (a_cons (ι := Value.ref) (k0 := 1) (p1 := 1) (fun _ => rfl) (e_aload_n (k0 := 0) d_X_gained_0 rfl rfl) (a_cons (ι := Value.int) (k0 := 1) (p1 := 2) (fun _ => rfl) (e_iload_n (k0 := 1) d_X_gained_1 rfl rfl) a_nil)) (k_virt ok_X_isGoer mf_X_isGoer ⟨tw_915, tw_24⟩ rfl tw_913 d_X_gained_2 (by decide) (by decide) (by decide))) d_X_gained_5 rfl) (e_iald (p1 := 15) (p2 := 19) (e_gR (k0 := 0) (p1 := 12) cf_4 (e_gR (k0 := 3) (p1 := 9) cf_0 (e_aload_n (k0 := 0) d_X_gained_8 rfl rfl) (by decide) tw_568 d_X_gained_9) (by decide) tw_320 d_X_gained_12) (e_iadd (p1 := 17) (p2 := 18) (e_bipush d_X_gained_15 (by decide)) (e_iload_n (k0 := 1) d_X_gained_17 rfl rfl) d_X_gained_18) d_X_gained_19) d_X_gained_20 rfl (e_ldc d_X_gained_23 tw_966)) rfl d_X_gained_25))
/-! BlinkerCross.want(II)I -/
abbrev y_X_want : MethodName := ⟨"BlinkerCross", "want", "(II)I"⟩
abbrev Y_X_want : Yt := (prog_1_method_9_code, 3, "BlinkerCross", 1, (some .int), "want")
theorem d_X_want_0 : decode prog_1_method_9_code 0 = .ok (.aload_n 0, 1) := by decide +kernel
theorem d_X_want_1 : decode prog_1_method_9_code 1 = .ok (.iload_n 1, 1) := by decide +kernel
theorem d_X_want_2 : decode prog_1_method_9_code 2 = .ok (.invokevirtual 144, 3) := by decide +kernel
theorem d_X_want_5 : decode prog_1_method_9_code 5 = .ok (.ifCond .eq 23, 3) := by decide +kernel
theorem d_X_want_8 : decode prog_1_method_9_code 8 = .ok (.aload_n 0, 1) := by decide +kernel
theorem d_X_want_9 : decode prog_1_method_9_code 9 = .ok (.iload_n 2, 1) := by decide +kernel
theorem d_X_want_10 : decode prog_1_method_9_code 10 = .ok (.invokevirtual 126, 3) := by decide +kernel
theorem d_X_want_13 : decode prog_1_method_9_code 13 = .ok (.ifCond .eq 15, 3) := by decide +kernel
theorem d_X_want_16 : decode prog_1_method_9_code 16 = .ok (.aload_n 0, 1) := by decide +kernel
theorem d_X_want_17 : decode prog_1_method_9_code 17 = .ok (.getfield 37, 3) := by decide +kernel
theorem d_X_want_20 : decode prog_1_method_9_code 20 = .ok (.iload_n 1, 1) := by decide +kernel
theorem d_X_want_21 : decode prog_1_method_9_code 21 = .ok (.iload_n 2, 1) := by decide +kernel
theorem d_X_want_22 : decode prog_1_method_9_code 22 = .ok (.invokevirtual 178, 3) := by decide +kernel
theorem d_X_want_25 : decode prog_1_method_9_code 25 = .ok (.goto 4, 3) := by decide +kernel
theorem d_X_want_28 : decode prog_1_method_9_code 28 = .ok (.iconst (-1), 1) := by decide +kernel
theorem d_X_want_29 : decode prog_1_method_9_code 29 = .ok (.ireturn, 1) := by decide +kernel
noncomputable def F_X_want : Sm := sRet (asV Value.int (iX (cAnd (o1 (fun x => decide (x ≠ 0)) (cI (mV 0 D_X_isGoer) [asV Value.ref (vR 0), asV Value.int (vI 1)])) (o1 (fun x => decide (x ≠ 0)) (cI (mV 0 D_X_isRoad) [asV Value.ref (vR 0), asV Value.int (vI 2)]))) (cI (mV 4 D_Scene_wantOf) [asV Value.ref (gR 0 3 (vR 0)), asV Value.int (vI 1), asV Value.int (vI 2)]) (kI (ii (-1)))))
theorem mf_X_want : Mf y_X_want prog_1_method_9_code 3 (some .int) 2 := ⟨tw_970, tw_122, by decide +kernel⟩
noncomputable def D_X_want : Dn := runS [1, 1, 1] F_X_want
theorem ok_X_want : MOK y_X_want prog_1_method_9_code 3 (some .int) 1 0 0 D_X_want := MOK.of (by decide) (by decide) (show SO Y_X_want [(0, 1), (1, 1), (2, 1)] [(0, 1), (1, 1), (2, 1)] 0 30 (([], 0), ([], 0)) F_X_want from
  (s_ret (p1 := 29) (e_ite (pt := 16) (p1 := 25) (pf := 28) (c_and (p1 := 8) (c_if_eqF (p1 := 5) (tg := 28) (e_cI (p1 := 2) (a_cons (ι := Value.ref) (k0 := 1) (p1 := 1) (fun _ => rfl) (e_aload_n (k0 := 0) d_X_want_0 rfl rfl) (a_cons (ι := Value.int) (k0 := 1) (p1 := 2) (fun _ => rfl) (e_iload_n (k0 := 1) d_X_want_1 rfl rfl) a_nil)) (k_virt ok_X_isGoer mf_X_isGoer ⟨tw_915, tw_24⟩ rfl tw_913 d_X_want_2 (by decide) (by decide) (by decide))) d_X_want_5 rfl) (c_if_eqF (p1 := 13) (tg := 28) (e_cI (p1 := 10) (a_cons (ι := Value.ref) (k0 := 1) (p1 := 9) (fun _ => rfl) (e_aload_n (k0 := 0) d_X_want_8 rfl rfl) (a_cons (ι := Value.int) (k0 := 1) (p1 := 10) (fun _ => rfl) (e_iload_n (k0 := 2) d_X_want_9 rfl rfl) a_nil)) (k_virt ok_X_isRoad mf_X_isRoad ⟨tw_890, tw_23⟩ rfl tw_888 d_X_want_10 (by decide) (by decide) (by decide))) d_X_want_13 rfl)) (e_cI (p1 := 22) (a_cons (ι := Value.ref) (k0 := 1) (p1 := 20) (fun _ => rfl) (e_gR (k0 := 3) (p1 := 17) cf_0 (e_aload_n (k0 := 0) d_X_want_16 rfl rfl) (by decide) tw_568 d_X_want_17) (a_cons (ι := Value.int) (k0 := 1) (p1 := 21) (fun _ => rfl) (e_iload_n (k0 := 1) d_X_want_20 rfl rfl) (a_cons (ι := Value.int) (k0 := 1) (p1 := 22) (fun _ => rfl) (e_iload_n (k0 := 2) d_X_want_21 rfl rfl) a_nil))) (k_virt ok_Scene_wantOf mf_Scene_wantOf ⟨tw_873, tw_874⟩ rfl tw_971 d_X_want_22 (by decide) (by decide) (by decide))) d_X_want_25 rfl (e_iconst d_X_want_28 (by decide))) rfl d_X_want_29))
/-! BlinkerCross.crowds(III)I -/
abbrev y_X_crowds : MethodName := ⟨"BlinkerCross", "crowds", "(III)I"⟩
abbrev Y_X_crowds : Yt := (prog_1_method_10_code, 4, "BlinkerCross", 3, (some .int), "crowds")
theorem d_X_crowds_0 : decode prog_1_method_10_code 0 = .ok (.aload_n 0, 1) := by decide +kernel
theorem d_X_crowds_1 : decode prog_1_method_10_code 1 = .ok (.iload_n 1, 1) := by decide +kernel
theorem d_X_crowds_2 : decode prog_1_method_10_code 2 = .ok (.invokevirtual 144, 3) := by decide +kernel
theorem d_X_crowds_5 : decode prog_1_method_10_code 5 = .ok (.ifCond .eq 21, 3) := by decide +kernel
theorem d_X_crowds_8 : decode prog_1_method_10_code 8 = .ok (.aload_n 0, 1) := by decide +kernel
theorem d_X_crowds_9 : decode prog_1_method_10_code 9 = .ok (.iload_n 2, 1) := by decide +kernel
theorem d_X_crowds_10 : decode prog_1_method_10_code 10 = .ok (.invokevirtual 126, 3) := by decide +kernel
theorem d_X_crowds_13 : decode prog_1_method_10_code 13 = .ok (.ifCond .eq 13, 3) := by decide +kernel
theorem d_X_crowds_16 : decode prog_1_method_10_code 16 = .ok (.iload_n 3, 1) := by decide +kernel
theorem d_X_crowds_17 : decode prog_1_method_10_code 17 = .ok (.iconst 1, 1) := by decide +kernel
theorem d_X_crowds_18 : decode prog_1_method_10_code 18 = .ok (.if_icmp .lt 8, 3) := by decide +kernel
theorem d_X_crowds_21 : decode prog_1_method_10_code 21 = .ok (.iload_n 3, 1) := by decide +kernel
theorem d_X_crowds_22 : decode prog_1_method_10_code 22 = .ok (.iconst 5, 1) := by decide +kernel
theorem d_X_crowds_23 : decode prog_1_method_10_code 23 = .ok (.if_icmp .le 5, 3) := by decide +kernel
theorem d_X_crowds_26 : decode prog_1_method_10_code 26 = .ok (.iconst (-1), 1) := by decide +kernel
theorem d_X_crowds_27 : decode prog_1_method_10_code 27 = .ok (.ireturn, 1) := by decide +kernel
theorem d_X_crowds_28 : decode prog_1_method_10_code 28 = .ok (.aload_n 0, 1) := by decide +kernel
theorem d_X_crowds_29 : decode prog_1_method_10_code 29 = .ok (.getfield 44, 3) := by decide +kernel
theorem d_X_crowds_32 : decode prog_1_method_10_code 32 = .ok (.aload_n 0, 1) := by decide +kernel
theorem d_X_crowds_33 : decode prog_1_method_10_code 33 = .ok (.getfield 37, 3) := by decide +kernel
theorem d_X_crowds_36 : decode prog_1_method_10_code 36 = .ok (.iload_n 1, 1) := by decide +kernel
theorem d_X_crowds_37 : decode prog_1_method_10_code 37 = .ok (.iload_n 2, 1) := by decide +kernel
theorem d_X_crowds_38 : decode prog_1_method_10_code 38 = .ok (.iload_n 3, 1) := by decide +kernel
theorem d_X_crowds_39 : decode prog_1_method_10_code 39 = .ok (.invokevirtual 181, 3) := by decide +kernel
theorem d_X_crowds_42 : decode prog_1_method_10_code 42 = .ok (.ireturn, 1) := by decide +kernel
noncomputable def F_X_crowds : Sm := sSeq (sIf (cOr (cOr (cOr (cNot (o1 (fun x => decide (x ≠ 0)) (cI (mV 0 D_X_isGoer) [asV Value.ref (vR 0), asV Value.int (vI 1)]))) (cNot (o1 (fun x => decide (x ≠ 0)) (cI (mV 0 D_X_isRoad) [asV Value.ref (vR 0), asV Value.int (vI 2)])))) (o2 (fun x y => decide (x < y)) (vI 3) (kI (ii 1)))) (o2 (fun x y => decide (x > y)) (vI 3) (kI (ii 5)))) (sRet (asV Value.int (kI (ii (-1))))) (sSkip)) (sRet (asV Value.int (cI (mV 5 D_Laws_crowdsOf) [asV Value.ref (gR 0 4 (vR 0)), asV Value.ref (gR 0 3 (vR 0)), asV Value.int (vI 1), asV Value.int (vI 2), asV Value.int (vI 3)])))
theorem mf_X_crowds : Mf y_X_crowds prog_1_method_10_code 4 (some .int) 3 := ⟨tw_975, tw_122, by decide +kernel⟩
noncomputable def D_X_crowds : Dn := runS [1, 1, 1, 1] F_X_crowds
theorem ok_X_crowds : MOK y_X_crowds prog_1_method_10_code 4 (some .int) 3 0 0 D_X_crowds := MOK.of (by decide) (by decide) (show SO Y_X_crowds [(0, 1), (1, 1), (2, 1), (3, 1)] [(0, 1), (1, 1), (2, 1), (3, 1)] 0 43 (([], 0), ([], 0)) F_X_crowds from
  (s_seq (sl1 := [(0, 1), (1, 1), (2, 1), (3, 1)]) (p1 := 28) (s_if (pt := 26) (pf := 28) (c_or (p1 := 21) (c_or (p1 := 16) (c_or (p1 := 8) (c_not (c_if_eqF (p1 := 5) (tg := 26) (e_cI (p1 := 2) (a_cons (ι := Value.ref) (k0 := 1) (p1 := 1) (fun _ => rfl) (e_aload_n (k0 := 0) d_X_crowds_0 rfl rfl) (a_cons (ι := Value.int) (k0 := 1) (p1 := 2) (fun _ => rfl) (e_iload_n (k0 := 1) d_X_crowds_1 rfl rfl) a_nil)) (k_virt ok_X_isGoer mf_X_isGoer ⟨tw_915, tw_24⟩ rfl tw_913 d_X_crowds_2 (by decide) (by decide) (by decide))) d_X_crowds_5 rfl)) (c_not (c_if_eqF (p1 := 13) (tg := 26) (e_cI (p1 := 10) (a_cons (ι := Value.ref) (k0 := 1) (p1 := 9) (fun _ => rfl) (e_aload_n (k0 := 0) d_X_crowds_8 rfl rfl) (a_cons (ι := Value.int) (k0 := 1) (p1 := 10) (fun _ => rfl) (e_iload_n (k0 := 2) d_X_crowds_9 rfl rfl) a_nil)) (k_virt ok_X_isRoad mf_X_isRoad ⟨tw_890, tw_23⟩ rfl tw_888 d_X_crowds_10 (by decide) (by decide) (by decide))) d_X_crowds_13 rfl))) (c_icmp_ltT (p1 := 17) (p2 := 18) (tg := 26) (e_iload_n (k0 := 3) d_X_crowds_16 rfl rfl) (e_iconst d_X_crowds_17 (by decide)) d_X_crowds_18 rfl)) (c_icmp_leF (p1 := 22) (p2 := 23) (tg := 28) (e_iload_n (k0 := 3) d_X_crowds_21 rfl rfl) (e_iconst d_X_crowds_22 (by decide)) d_X_crowds_23 rfl)) (s_ret (p1 := 27) (e_iconst d_X_crowds_26 (by decide)) rfl d_X_crowds_27) s_skip) (s_ret (p1 := 42) (e_cI (p1 := 39) (a_cons (ι := Value.ref) (k0 := 1) (p1 := 32) (fun _ => rfl) (e_gR (k0 := 4) (p1 := 29) cf_0 (e_aload_n (k0 := 0) d_X_crowds_28 rfl rfl) (by decide) tw_569 d_X_crowds_29) (a_cons (ι := Value.ref) (k0 := 1) (p1 := 36) (fun _ => rfl) (e_gR (k0 := 3) (p1 := 33) cf_0 (e_aload_n (k0 := 0) d_X_crowds_32 rfl rfl) (by decide) tw_568 d_X_crowds_33) (a_cons (ι := Value.int) (k0 := 1) (p1 := 37) (fun _ => rfl) (e_iload_n (k0 := 1) d_X_crowds_36 rfl rfl) (a_cons (ι := Value.int) (k0 := 1) (p1 := 38) (fun _ => rfl) (e_iload_n (k0 := 2) d_X_crowds_37 rfl rfl) (a_cons (ι := Value.int) (k0 := 1) (p1 := 39) (fun _ => rfl) (e_iload_n (k0 := 3) d_X_crowds_38 rfl rfl) a_nil))))) (k_virt ok_Laws_crowdsOf mf_Laws_crowdsOf ⟨tw_977, tw_978⟩ rfl tw_976 d_X_crowds_39 (by decide) (by decide) (by decide))) rfl d_X_crowds_42)))
/-! BlinkerCross.flap(II)Z -/
abbrev y_X_flap : MethodName := ⟨"BlinkerCross", "flap", "(II)Z"⟩
abbrev Y_X_flap : Yt := (prog_1_method_11_code, 3, "BlinkerCross", 3, (some .boolean), "flap")
theorem d_X_flap_0 : decode prog_1_method_11_code 0 = .ok (.aload_n 0, 1) := by decide +kernel
theorem d_X_flap_1 : decode prog_1_method_11_code 1 = .ok (.iload_n 1, 1) := by decide +kernel
theorem d_X_flap_2 : decode prog_1_method_11_code 2 = .ok (.invokevirtual 144, 3) := by decide +kernel
theorem d_X_flap_5 : decode prog_1_method_11_code 5 = .ok (.ifCond .eq 14, 3) := by decide +kernel
theorem d_X_flap_8 : decode prog_1_method_11_code 8 = .ok (.iload_n 2, 1) := by decide +kernel
theorem d_X_flap_9 : decode prog_1_method_11_code 9 = .ok (.iconst 1, 1) := by decide +kernel
theorem d_X_flap_10 : decode prog_1_method_11_code 10 = .ok (.if_icmp .lt 9, 3) := by decide +kernel
theorem d_X_flap_13 : decode prog_1_method_11_code 13 = .ok (.iload_n 2, 1) := by decide +kernel
theorem d_X_flap_14 : decode prog_1_method_11_code 14 = .ok (.bipush 6, 2) := by decide +kernel
theorem d_X_flap_16 : decode prog_1_method_11_code 16 = .ok (.if_icmp .le 5, 3) := by decide +kernel
theorem d_X_flap_19 : decode prog_1_method_11_code 19 = .ok (.iconst 0, 1) := by decide +kernel
theorem d_X_flap_20 : decode prog_1_method_11_code 20 = .ok (.ireturn, 1) := by decide +kernel
theorem d_X_flap_21 : decode prog_1_method_11_code 21 = .ok (.aload_n 0, 1) := by decide +kernel
theorem d_X_flap_22 : decode prog_1_method_11_code 22 = .ok (.getfield 37, 3) := by decide +kernel
theorem d_X_flap_25 : decode prog_1_method_11_code 25 = .ok (.getfield 151, 3) := by decide +kernel
theorem d_X_flap_28 : decode prog_1_method_11_code 28 = .ok (.iconst 5, 1) := by decide +kernel
theorem d_X_flap_29 : decode prog_1_method_11_code 29 = .ok (.iload_n 1, 1) := by decide +kernel
theorem d_X_flap_30 : decode prog_1_method_11_code 30 = .ok (.iadd, 1) := by decide +kernel
theorem d_X_flap_31 : decode prog_1_method_11_code 31 = .ok (.iaload, 1) := by decide +kernel
theorem d_X_flap_32 : decode prog_1_method_11_code 32 = .ok (.iload_n 2, 1) := by decide +kernel
theorem d_X_flap_33 : decode prog_1_method_11_code 33 = .ok (.if_icmp .ne 21, 3) := by decide +kernel
theorem d_X_flap_36 : decode prog_1_method_11_code 36 = .ok (.aload_n 0, 1) := by decide +kernel
theorem d_X_flap_37 : decode prog_1_method_11_code 37 = .ok (.getfield 37, 3) := by decide +kernel
theorem d_X_flap_40 : decode prog_1_method_11_code 40 = .ok (.getfield 151, 3) := by decide +kernel
theorem d_X_flap_43 : decode prog_1_method_11_code 43 = .ok (.bipush 10, 2) := by decide +kernel
theorem d_X_flap_45 : decode prog_1_method_11_code 45 = .ok (.iload_n 1, 1) := by decide +kernel
theorem d_X_flap_46 : decode prog_1_method_11_code 46 = .ok (.iadd, 1) := by decide +kernel
theorem d_X_flap_47 : decode prog_1_method_11_code 47 = .ok (.iaload, 1) := by decide +kernel
theorem d_X_flap_48 : decode prog_1_method_11_code 48 = .ok (.iload_n 2, 1) := by decide +kernel
theorem d_X_flap_49 : decode prog_1_method_11_code 49 = .ok (.if_icmp .ne 5, 3) := by decide +kernel
theorem d_X_flap_52 : decode prog_1_method_11_code 52 = .ok (.iconst 0, 1) := by decide +kernel
theorem d_X_flap_53 : decode prog_1_method_11_code 53 = .ok (.ireturn, 1) := by decide +kernel
theorem d_X_flap_54 : decode prog_1_method_11_code 54 = .ok (.aload_n 0, 1) := by decide +kernel
theorem d_X_flap_55 : decode prog_1_method_11_code 55 = .ok (.getfield 92, 3) := by decide +kernel
theorem d_X_flap_58 : decode prog_1_method_11_code 58 = .ok (.aload_n 0, 1) := by decide +kernel
theorem d_X_flap_59 : decode prog_1_method_11_code 59 = .ok (.getfield 37, 3) := by decide +kernel
theorem d_X_flap_62 : decode prog_1_method_11_code 62 = .ok (.invokevirtual 185, 3) := by decide +kernel
theorem d_X_flap_65 : decode prog_1_method_11_code 65 = .ok (.aload_n 0, 1) := by decide +kernel
theorem d_X_flap_66 : decode prog_1_method_11_code 66 = .ok (.getfield 37, 3) := by decide +kernel
theorem d_X_flap_69 : decode prog_1_method_11_code 69 = .ok (.getfield 151, 3) := by decide +kernel
theorem d_X_flap_72 : decode prog_1_method_11_code 72 = .ok (.iconst 5, 1) := by decide +kernel
theorem d_X_flap_73 : decode prog_1_method_11_code 73 = .ok (.iload_n 1, 1) := by decide +kernel
theorem d_X_flap_74 : decode prog_1_method_11_code 74 = .ok (.iadd, 1) := by decide +kernel
theorem d_X_flap_75 : decode prog_1_method_11_code 75 = .ok (.iload_n 2, 1) := by decide +kernel
theorem d_X_flap_76 : decode prog_1_method_11_code 76 = .ok (.iastore, 1) := by decide +kernel
theorem d_X_flap_77 : decode prog_1_method_11_code 77 = .ok (.aload_n 0, 1) := by decide +kernel
theorem d_X_flap_78 : decode prog_1_method_11_code 78 = .ok (.getfield 37, 3) := by decide +kernel
theorem d_X_flap_81 : decode prog_1_method_11_code 81 = .ok (.getfield 151, 3) := by decide +kernel
theorem d_X_flap_84 : decode prog_1_method_11_code 84 = .ok (.bipush 10, 2) := by decide +kernel
theorem d_X_flap_86 : decode prog_1_method_11_code 86 = .ok (.iload_n 1, 1) := by decide +kernel
theorem d_X_flap_87 : decode prog_1_method_11_code 87 = .ok (.iadd, 1) := by decide +kernel
theorem d_X_flap_88 : decode prog_1_method_11_code 88 = .ok (.iload_n 2, 1) := by decide +kernel
theorem d_X_flap_89 : decode prog_1_method_11_code 89 = .ok (.iastore, 1) := by decide +kernel
theorem d_X_flap_90 : decode prog_1_method_11_code 90 = .ok (.aload_n 0, 1) := by decide +kernel
theorem d_X_flap_91 : decode prog_1_method_11_code 91 = .ok (.getfield 37, 3) := by decide +kernel
theorem d_X_flap_94 : decode prog_1_method_11_code 94 = .ok (.invokevirtual 189, 3) := by decide +kernel
theorem d_X_flap_97 : decode prog_1_method_11_code 97 = .ok (.iconst 1, 1) := by decide +kernel
theorem d_X_flap_98 : decode prog_1_method_11_code 98 = .ok (.ireturn, 1) := by decide +kernel
noncomputable def F_X_flap : Sm := sSeq (sIf (cOr (cOr (cNot (o1 (fun x => decide (x ≠ 0)) (cI (mV 0 D_X_isGoer) [asV Value.ref (vR 0), asV Value.int (vI 1)]))) (o2 (fun x y => decide (x < y)) (vI 2) (kI (ii 1)))) (o2 (fun x y => decide (x > y)) (vI 2) (kI (ii 6)))) (sRetZ (kI (ii 0))) (sSkip)) (sSeq (sIf (cAnd (o2 (fun x y => decide (x = y)) (aI 0 (gR 4 0 (gR 0 3 (vR 0))) (o2 (fun x y => x + y) (kI (ii 5)) (vI 1))) (vI 2)) (o2 (fun x y => decide (x = y)) (aI 0 (gR 4 0 (gR 0 3 (vR 0))) (o2 (fun x y => x + y) (kI (ii 10)) (vI 1))) (vI 2))) (sRetZ (kI (ii 0))) (sSkip)) (sSeq (sCall (mV 11 D_History_remember) [asV Value.ref (gR 0 10 (vR 0)), asV Value.ref (gR 0 3 (vR 0))]) (sSeq (sAst 0 (gR 4 0 (gR 0 3 (vR 0))) (o2 (fun x y => x + y) (kI (ii 5)) (vI 1)) (vI 2)) (sSeq (sAst 0 (gR 4 0 (gR 0 3 (vR 0))) (o2 (fun x y => x + y) (kI (ii 10)) (vI 1)) (vI 2)) (sSeq (sCall (mV 4 D_Scene_choose) [asV Value.ref (gR 0 3 (vR 0))]) (sRetZ (kI (ii 1))))))))
theorem mf_X_flap : Mf y_X_flap prog_1_method_11_code 3 (some .boolean) 2 := ⟨tw_983, tw_122, by decide +kernel⟩
noncomputable def D_X_flap : Dn := runS [1, 1, 1] F_X_flap
theorem ok_X_flap : MOK y_X_flap prog_1_method_11_code 3 (some .boolean) 3 0 0 D_X_flap := MOK.of (by decide) (by decide) (show SO Y_X_flap [(0, 1), (1, 1), (2, 1)] [(0, 1), (1, 1), (2, 1)] 0 99 (([], 0), ([], 0)) F_X_flap from
  (s_seq (sl1 := [(0, 1), (1, 1), (2, 1)]) (p1 := 21) (s_if (pt := 19) (pf := 21) (c_or (p1 := 13) (c_or (p1 := 8) (c_not (c_if_eqF (p1 := 5) (tg := 19) (e_cI (p1 := 2) (a_cons (ι := Value.ref) (k0 := 1) (p1 := 1) (fun _ => rfl) (e_aload_n (k0 := 0) d_X_flap_0 rfl rfl) (a_cons (ι := Value.int) (k0 := 1) (p1 := 2) (fun _ => rfl) (e_iload_n (k0 := 1) d_X_flap_1 rfl rfl) a_nil)) (k_virt ok_X_isGoer mf_X_isGoer ⟨tw_915, tw_24⟩ rfl tw_913 d_X_flap_2 (by decide) (by decide) (by decide))) d_X_flap_5 rfl)) (c_icmp_ltT (p1 := 9) (p2 := 10) (tg := 19) (e_iload_n (k0 := 2) d_X_flap_8 rfl rfl) (e_iconst d_X_flap_9 (by decide)) d_X_flap_10 rfl)) (c_icmp_leF (p1 := 14) (p2 := 16) (tg := 21) (e_iload_n (k0 := 2) d_X_flap_13 rfl rfl) (e_bipush d_X_flap_14 (by decide)) d_X_flap_16 rfl)) (s_retZ (p1 := 20) (e_iconst d_X_flap_19 (by decide)) rfl d_X_flap_20) s_skip) (s_seq (sl1 := [(0, 1), (1, 1), (2, 1)]) (p1 := 54) (s_if (pt := 52) (pf := 54) (c_and (p1 := 36) (c_icmp_neF (p1 := 32) (p2 := 33) (tg := 54) (e_iald (p1 := 28) (p2 := 31) (e_gR (k0 := 0) (p1 := 25) cf_4 (e_gR (k0 := 3) (p1 := 22) cf_0 (e_aload_n (k0 := 0) d_X_flap_21 rfl rfl) (by decide) tw_568 d_X_flap_22) (by decide) tw_320 d_X_flap_25) (e_iadd (p1 := 29) (p2 := 30) (e_iconst d_X_flap_28 (by decide)) (e_iload_n (k0 := 1) d_X_flap_29 rfl rfl) d_X_flap_30) d_X_flap_31) (e_iload_n (k0 := 2) d_X_flap_32 rfl rfl) d_X_flap_33 rfl) (c_icmp_neF (p1 := 48) (p2 := 49) (tg := 54) (e_iald (p1 := 43) (p2 := 47) (e_gR (k0 := 0) (p1 := 40) cf_4 (e_gR (k0 := 3) (p1 := 37) cf_0 (e_aload_n (k0 := 0) d_X_flap_36 rfl rfl) (by decide) tw_568 d_X_flap_37) (by decide) tw_320 d_X_flap_40) (e_iadd (p1 := 45) (p2 := 46) (e_bipush d_X_flap_43 (by decide)) (e_iload_n (k0 := 1) d_X_flap_45 rfl rfl) d_X_flap_46) d_X_flap_47) (e_iload_n (k0 := 2) d_X_flap_48 rfl rfl) d_X_flap_49 rfl)) (s_retZ (p1 := 53) (e_iconst d_X_flap_52 (by decide)) rfl d_X_flap_53) s_skip) (s_seq (sl1 := [(0, 1), (1, 1), (2, 1)]) (p1 := 65) (s_call (p1 := 62) (a_cons (ι := Value.ref) (k0 := 1) (p1 := 58) (fun _ => rfl) (e_gR (k0 := 10) (p1 := 55) cf_0 (e_aload_n (k0 := 0) d_X_flap_54 rfl rfl) (by decide) tw_575 d_X_flap_55) (a_cons (ι := Value.ref) (k0 := 1) (p1 := 62) (fun _ => rfl) (e_gR (k0 := 3) (p1 := 59) cf_0 (e_aload_n (k0 := 0) d_X_flap_58 rfl rfl) (by decide) tw_568 d_X_flap_59) a_nil)) (k_virt ok_History_remember mf_History_remember ⟨tw_985, tw_986⟩ rfl tw_984 d_X_flap_62 (by decide) (by decide) (by decide))) (s_seq (sl1 := [(0, 1), (1, 1), (2, 1)]) (p1 := 77) (s_ast (p1 := 72) (p2 := 75) (p3 := 76) (e_gR (k0 := 0) (p1 := 69) cf_4 (e_gR (k0 := 3) (p1 := 66) cf_0 (e_aload_n (k0 := 0) d_X_flap_65 rfl rfl) (by decide) tw_568 d_X_flap_66) (by decide) tw_320 d_X_flap_69) (e_iadd (p1 := 73) (p2 := 74) (e_iconst d_X_flap_72 (by decide)) (e_iload_n (k0 := 1) d_X_flap_73 rfl rfl) d_X_flap_74) (e_iload_n (k0 := 2) d_X_flap_75 rfl rfl) (as_i d_X_flap_76)) (s_seq (sl1 := [(0, 1), (1, 1), (2, 1)]) (p1 := 90) (s_ast (p1 := 84) (p2 := 88) (p3 := 89) (e_gR (k0 := 0) (p1 := 81) cf_4 (e_gR (k0 := 3) (p1 := 78) cf_0 (e_aload_n (k0 := 0) d_X_flap_77 rfl rfl) (by decide) tw_568 d_X_flap_78) (by decide) tw_320 d_X_flap_81) (e_iadd (p1 := 86) (p2 := 87) (e_bipush d_X_flap_84 (by decide)) (e_iload_n (k0 := 1) d_X_flap_86 rfl rfl) d_X_flap_87) (e_iload_n (k0 := 2) d_X_flap_88 rfl rfl) (as_i d_X_flap_89)) (s_seq (sl1 := [(0, 1), (1, 1), (2, 1)]) (p1 := 97) (s_call (p1 := 94) (a_cons (ι := Value.ref) (k0 := 1) (p1 := 94) (fun _ => rfl) (e_gR (k0 := 3) (p1 := 91) cf_0 (e_aload_n (k0 := 0) d_X_flap_90 rfl rfl) (by decide) tw_568 d_X_flap_91) a_nil) (k_virt ok_Scene_choose mf_Scene_choose ⟨tw_861, tw_862⟩ rfl tw_993 d_X_flap_94 (by decide) (by decide) (by decide))) (s_retZ (p1 := 98) (e_iconst d_X_flap_97 (by decide)) rfl d_X_flap_98))))))))
/-! BlinkerCross.turn(II)Z -/
abbrev y_X_turn : MethodName := ⟨"BlinkerCross", "turn", "(II)Z"⟩
abbrev Y_X_turn : Yt := (prog_1_method_12_code, 3, "BlinkerCross", 3, (some .boolean), "turn")
theorem d_X_turn_0 : decode prog_1_method_12_code 0 = .ok (.aload_n 0, 1) := by decide +kernel
theorem d_X_turn_1 : decode prog_1_method_12_code 1 = .ok (.iload_n 1, 1) := by decide +kernel
theorem d_X_turn_2 : decode prog_1_method_12_code 2 = .ok (.invokevirtual 144, 3) := by decide +kernel
theorem d_X_turn_5 : decode prog_1_method_12_code 5 = .ok (.ifCond .eq 26, 3) := by decide +kernel
theorem d_X_turn_8 : decode prog_1_method_12_code 8 = .ok (.aload_n 0, 1) := by decide +kernel
theorem d_X_turn_9 : decode prog_1_method_12_code 9 = .ok (.iload_n 2, 1) := by decide +kernel
theorem d_X_turn_10 : decode prog_1_method_12_code 10 = .ok (.invokevirtual 126, 3) := by decide +kernel
theorem d_X_turn_13 : decode prog_1_method_12_code 13 = .ok (.ifCond .eq 18, 3) := by decide +kernel
theorem d_X_turn_16 : decode prog_1_method_12_code 16 = .ok (.aload_n 0, 1) := by decide +kernel
theorem d_X_turn_17 : decode prog_1_method_12_code 17 = .ok (.getfield 37, 3) := by decide +kernel
theorem d_X_turn_20 : decode prog_1_method_12_code 20 = .ok (.getfield 151, 3) := by decide +kernel
theorem d_X_turn_23 : decode prog_1_method_12_code 23 = .ok (.iconst 0, 1) := by decide +kernel
theorem d_X_turn_24 : decode prog_1_method_12_code 24 = .ok (.iload_n 1, 1) := by decide +kernel
theorem d_X_turn_25 : decode prog_1_method_12_code 25 = .ok (.iadd, 1) := by decide +kernel
theorem d_X_turn_26 : decode prog_1_method_12_code 26 = .ok (.iaload, 1) := by decide +kernel
theorem d_X_turn_27 : decode prog_1_method_12_code 27 = .ok (.iload_n 2, 1) := by decide +kernel
theorem d_X_turn_28 : decode prog_1_method_12_code 28 = .ok (.if_icmp .ne 5, 3) := by decide +kernel
theorem d_X_turn_31 : decode prog_1_method_12_code 31 = .ok (.iconst 0, 1) := by decide +kernel
theorem d_X_turn_32 : decode prog_1_method_12_code 32 = .ok (.ireturn, 1) := by decide +kernel
theorem d_X_turn_33 : decode prog_1_method_12_code 33 = .ok (.aload_n 0, 1) := by decide +kernel
theorem d_X_turn_34 : decode prog_1_method_12_code 34 = .ok (.getfield 92, 3) := by decide +kernel
theorem d_X_turn_37 : decode prog_1_method_12_code 37 = .ok (.aload_n 0, 1) := by decide +kernel
theorem d_X_turn_38 : decode prog_1_method_12_code 38 = .ok (.getfield 37, 3) := by decide +kernel
theorem d_X_turn_41 : decode prog_1_method_12_code 41 = .ok (.invokevirtual 185, 3) := by decide +kernel
theorem d_X_turn_44 : decode prog_1_method_12_code 44 = .ok (.aload_n 0, 1) := by decide +kernel
theorem d_X_turn_45 : decode prog_1_method_12_code 45 = .ok (.getfield 37, 3) := by decide +kernel
theorem d_X_turn_48 : decode prog_1_method_12_code 48 = .ok (.getfield 151, 3) := by decide +kernel
theorem d_X_turn_51 : decode prog_1_method_12_code 51 = .ok (.iconst 0, 1) := by decide +kernel
theorem d_X_turn_52 : decode prog_1_method_12_code 52 = .ok (.iload_n 1, 1) := by decide +kernel
theorem d_X_turn_53 : decode prog_1_method_12_code 53 = .ok (.iadd, 1) := by decide +kernel
theorem d_X_turn_54 : decode prog_1_method_12_code 54 = .ok (.iload_n 2, 1) := by decide +kernel
theorem d_X_turn_55 : decode prog_1_method_12_code 55 = .ok (.iastore, 1) := by decide +kernel
theorem d_X_turn_56 : decode prog_1_method_12_code 56 = .ok (.aload_n 0, 1) := by decide +kernel
theorem d_X_turn_57 : decode prog_1_method_12_code 57 = .ok (.getfield 37, 3) := by decide +kernel
theorem d_X_turn_60 : decode prog_1_method_12_code 60 = .ok (.invokevirtual 189, 3) := by decide +kernel
theorem d_X_turn_63 : decode prog_1_method_12_code 63 = .ok (.iconst 1, 1) := by decide +kernel
theorem d_X_turn_64 : decode prog_1_method_12_code 64 = .ok (.ireturn, 1) := by decide +kernel
noncomputable def F_X_turn : Sm := sSeq (sIf (cOr (cOr (cNot (o1 (fun x => decide (x ≠ 0)) (cI (mV 0 D_X_isGoer) [asV Value.ref (vR 0), asV Value.int (vI 1)]))) (cNot (o1 (fun x => decide (x ≠ 0)) (cI (mV 0 D_X_isRoad) [asV Value.ref (vR 0), asV Value.int (vI 2)])))) (o2 (fun x y => decide (x = y)) (aI 0 (gR 4 0 (gR 0 3 (vR 0))) (o2 (fun x y => x + y) (kI (ii 0)) (vI 1))) (vI 2))) (sRetZ (kI (ii 0))) (sSkip)) (sSeq (sCall (mV 11 D_History_remember) [asV Value.ref (gR 0 10 (vR 0)), asV Value.ref (gR 0 3 (vR 0))]) (sSeq (sAst 0 (gR 4 0 (gR 0 3 (vR 0))) (o2 (fun x y => x + y) (kI (ii 0)) (vI 1)) (vI 2)) (sSeq (sCall (mV 4 D_Scene_choose) [asV Value.ref (gR 0 3 (vR 0))]) (sRetZ (kI (ii 1))))))
theorem mf_X_turn : Mf y_X_turn prog_1_method_12_code 3 (some .boolean) 2 := ⟨tw_997, tw_122, by decide +kernel⟩
noncomputable def D_X_turn : Dn := runS [1, 1, 1] F_X_turn
theorem ok_X_turn : MOK y_X_turn prog_1_method_12_code 3 (some .boolean) 3 0 0 D_X_turn := MOK.of (by decide) (by decide) (show SO Y_X_turn [(0, 1), (1, 1), (2, 1)] [(0, 1), (1, 1), (2, 1)] 0 65 (([], 0), ([], 0)) F_X_turn from
  (s_seq (sl1 := [(0, 1), (1, 1), (2, 1)]) (p1 := 33) (s_if (pt := 31) (pf := 33) (c_or (p1 := 16) (c_or (p1 := 8) (c_not (c_if_eqF (p1 := 5) (tg := 31) (e_cI (p1 := 2) (a_cons (ι := Value.ref) (k0 := 1) (p1 := 1) (fun _ => rfl) (e_aload_n (k0 := 0) d_X_turn_0 rfl rfl) (a_cons (ι := Value.int) (k0 := 1) (p1 := 2) (fun _ => rfl) (e_iload_n (k0 := 1) d_X_turn_1 rfl rfl) a_nil)) (k_virt ok_X_isGoer mf_X_isGoer ⟨tw_915, tw_24⟩ rfl tw_913 d_X_turn_2 (by decide) (by decide) (by decide))) d_X_turn_5 rfl)) (c_not (c_if_eqF (p1 := 13) (tg := 31) (e_cI (p1 := 10) (a_cons (ι := Value.ref) (k0 := 1) (p1 := 9) (fun _ => rfl) (e_aload_n (k0 := 0) d_X_turn_8 rfl rfl) (a_cons (ι := Value.int) (k0 := 1) (p1 := 10) (fun _ => rfl) (e_iload_n (k0 := 2) d_X_turn_9 rfl rfl) a_nil)) (k_virt ok_X_isRoad mf_X_isRoad ⟨tw_890, tw_23⟩ rfl tw_888 d_X_turn_10 (by decide) (by decide) (by decide))) d_X_turn_13 rfl))) (c_icmp_neF (p1 := 27) (p2 := 28) (tg := 33) (e_iald (p1 := 23) (p2 := 26) (e_gR (k0 := 0) (p1 := 20) cf_4 (e_gR (k0 := 3) (p1 := 17) cf_0 (e_aload_n (k0 := 0) d_X_turn_16 rfl rfl) (by decide) tw_568 d_X_turn_17) (by decide) tw_320 d_X_turn_20) (e_iadd (p1 := 24) (p2 := 25) (e_iconst d_X_turn_23 (by decide)) (e_iload_n (k0 := 1) d_X_turn_24 rfl rfl) d_X_turn_25) d_X_turn_26) (e_iload_n (k0 := 2) d_X_turn_27 rfl rfl) d_X_turn_28 rfl)) (s_retZ (p1 := 32) (e_iconst d_X_turn_31 (by decide)) rfl d_X_turn_32) s_skip) (s_seq (sl1 := [(0, 1), (1, 1), (2, 1)]) (p1 := 44) (s_call (p1 := 41) (a_cons (ι := Value.ref) (k0 := 1) (p1 := 37) (fun _ => rfl) (e_gR (k0 := 10) (p1 := 34) cf_0 (e_aload_n (k0 := 0) d_X_turn_33 rfl rfl) (by decide) tw_575 d_X_turn_34) (a_cons (ι := Value.ref) (k0 := 1) (p1 := 41) (fun _ => rfl) (e_gR (k0 := 3) (p1 := 38) cf_0 (e_aload_n (k0 := 0) d_X_turn_37 rfl rfl) (by decide) tw_568 d_X_turn_38) a_nil)) (k_virt ok_History_remember mf_History_remember ⟨tw_985, tw_986⟩ rfl tw_984 d_X_turn_41 (by decide) (by decide) (by decide))) (s_seq (sl1 := [(0, 1), (1, 1), (2, 1)]) (p1 := 56) (s_ast (p1 := 51) (p2 := 54) (p3 := 55) (e_gR (k0 := 0) (p1 := 48) cf_4 (e_gR (k0 := 3) (p1 := 45) cf_0 (e_aload_n (k0 := 0) d_X_turn_44 rfl rfl) (by decide) tw_568 d_X_turn_45) (by decide) tw_320 d_X_turn_48) (e_iadd (p1 := 52) (p2 := 53) (e_iconst d_X_turn_51 (by decide)) (e_iload_n (k0 := 1) d_X_turn_52 rfl rfl) d_X_turn_53) (e_iload_n (k0 := 2) d_X_turn_54 rfl rfl) (as_i d_X_turn_55)) (s_seq (sl1 := [(0, 1), (1, 1), (2, 1)]) (p1 := 63) (s_call (p1 := 60) (a_cons (ι := Value.ref) (k0 := 1) (p1 := 60) (fun _ => rfl) (e_gR (k0 := 3) (p1 := 57) cf_0 (e_aload_n (k0 := 0) d_X_turn_56 rfl rfl) (by decide) tw_568 d_X_turn_57) a_nil) (k_virt ok_Scene_choose mf_Scene_choose ⟨tw_861, tw_862⟩ rfl tw_993 d_X_turn_60 (by decide) (by decide) (by decide))) (s_retZ (p1 := 64) (e_iconst d_X_turn_63 (by decide)) rfl d_X_turn_64))))))
/-! BlinkerCross.wish(III)Z -/
abbrev y_X_wish : MethodName := ⟨"BlinkerCross", "wish", "(III)Z"⟩
abbrev Y_X_wish : Yt := (prog_1_method_13_code, 4, "BlinkerCross", 3, (some .boolean), "wish")
theorem d_X_wish_0 : decode prog_1_method_13_code 0 = .ok (.aload_n 0, 1) := by decide +kernel
theorem d_X_wish_1 : decode prog_1_method_13_code 1 = .ok (.iload_n 1, 1) := by decide +kernel
theorem d_X_wish_2 : decode prog_1_method_13_code 2 = .ok (.invokevirtual 144, 3) := by decide +kernel
theorem d_X_wish_5 : decode prog_1_method_13_code 5 = .ok (.ifCond .eq 34, 3) := by decide +kernel
theorem d_X_wish_8 : decode prog_1_method_13_code 8 = .ok (.aload_n 0, 1) := by decide +kernel
theorem d_X_wish_9 : decode prog_1_method_13_code 9 = .ok (.iload_n 2, 1) := by decide +kernel
theorem d_X_wish_10 : decode prog_1_method_13_code 10 = .ok (.invokevirtual 126, 3) := by decide +kernel
theorem d_X_wish_13 : decode prog_1_method_13_code 13 = .ok (.ifCond .eq 26, 3) := by decide +kernel
theorem d_X_wish_16 : decode prog_1_method_13_code 16 = .ok (.iload_n 3, 1) := by decide +kernel
theorem d_X_wish_17 : decode prog_1_method_13_code 17 = .ok (.ifCond .lt 22, 3) := by decide +kernel
theorem d_X_wish_20 : decode prog_1_method_13_code 20 = .ok (.iload_n 3, 1) := by decide +kernel
theorem d_X_wish_21 : decode prog_1_method_13_code 21 = .ok (.bipush 99, 2) := by decide +kernel
theorem d_X_wish_23 : decode prog_1_method_13_code 23 = .ok (.if_icmp .gt 16, 3) := by decide +kernel
theorem d_X_wish_26 : decode prog_1_method_13_code 26 = .ok (.aload_n 0, 1) := by decide +kernel
theorem d_X_wish_27 : decode prog_1_method_13_code 27 = .ok (.getfield 37, 3) := by decide +kernel
theorem d_X_wish_30 : decode prog_1_method_13_code 30 = .ok (.iload_n 1, 1) := by decide +kernel
theorem d_X_wish_31 : decode prog_1_method_13_code 31 = .ok (.iload_n 2, 1) := by decide +kernel
theorem d_X_wish_32 : decode prog_1_method_13_code 32 = .ok (.invokevirtual 178, 3) := by decide +kernel
theorem d_X_wish_35 : decode prog_1_method_13_code 35 = .ok (.iload_n 3, 1) := by decide +kernel
theorem d_X_wish_36 : decode prog_1_method_13_code 36 = .ok (.if_icmp .ne 5, 3) := by decide +kernel
theorem d_X_wish_39 : decode prog_1_method_13_code 39 = .ok (.iconst 0, 1) := by decide +kernel
theorem d_X_wish_40 : decode prog_1_method_13_code 40 = .ok (.ireturn, 1) := by decide +kernel
theorem d_X_wish_41 : decode prog_1_method_13_code 41 = .ok (.aload_n 0, 1) := by decide +kernel
theorem d_X_wish_42 : decode prog_1_method_13_code 42 = .ok (.getfield 92, 3) := by decide +kernel
theorem d_X_wish_45 : decode prog_1_method_13_code 45 = .ok (.aload_n 0, 1) := by decide +kernel
theorem d_X_wish_46 : decode prog_1_method_13_code 46 = .ok (.getfield 37, 3) := by decide +kernel
theorem d_X_wish_49 : decode prog_1_method_13_code 49 = .ok (.invokevirtual 185, 3) := by decide +kernel
theorem d_X_wish_52 : decode prog_1_method_13_code 52 = .ok (.aload_n 0, 1) := by decide +kernel
theorem d_X_wish_53 : decode prog_1_method_13_code 53 = .ok (.getfield 37, 3) := by decide +kernel
theorem d_X_wish_56 : decode prog_1_method_13_code 56 = .ok (.getfield 151, 3) := by decide +kernel
theorem d_X_wish_59 : decode prog_1_method_13_code 59 = .ok (.bipush 26, 2) := by decide +kernel
theorem d_X_wish_61 : decode prog_1_method_13_code 61 = .ok (.iload_n 1, 1) := by decide +kernel
theorem d_X_wish_62 : decode prog_1_method_13_code 62 = .ok (.bipush 6, 2) := by decide +kernel
theorem d_X_wish_64 : decode prog_1_method_13_code 64 = .ok (.imul, 1) := by decide +kernel
theorem d_X_wish_65 : decode prog_1_method_13_code 65 = .ok (.iadd, 1) := by decide +kernel
theorem d_X_wish_66 : decode prog_1_method_13_code 66 = .ok (.iload_n 2, 1) := by decide +kernel
theorem d_X_wish_67 : decode prog_1_method_13_code 67 = .ok (.iadd, 1) := by decide +kernel
theorem d_X_wish_68 : decode prog_1_method_13_code 68 = .ok (.iload_n 3, 1) := by decide +kernel
theorem d_X_wish_69 : decode prog_1_method_13_code 69 = .ok (.iastore, 1) := by decide +kernel
theorem d_X_wish_70 : decode prog_1_method_13_code 70 = .ok (.aload_n 0, 1) := by decide +kernel
theorem d_X_wish_71 : decode prog_1_method_13_code 71 = .ok (.getfield 37, 3) := by decide +kernel
theorem d_X_wish_74 : decode prog_1_method_13_code 74 = .ok (.invokevirtual 189, 3) := by decide +kernel
theorem d_X_wish_77 : decode prog_1_method_13_code 77 = .ok (.iconst 1, 1) := by decide +kernel
theorem d_X_wish_78 : decode prog_1_method_13_code 78 = .ok (.ireturn, 1) := by decide +kernel
noncomputable def F_X_wish : Sm := sSeq (sIf (cOr (cOr (cOr (cOr (cNot (o1 (fun x => decide (x ≠ 0)) (cI (mV 0 D_X_isGoer) [asV Value.ref (vR 0), asV Value.int (vI 1)]))) (cNot (o1 (fun x => decide (x ≠ 0)) (cI (mV 0 D_X_isRoad) [asV Value.ref (vR 0), asV Value.int (vI 2)])))) (o1 (fun x => decide (x < 0)) (vI 3))) (o2 (fun x y => decide (x > y)) (vI 3) (kI (ii 99)))) (o2 (fun x y => decide (x = y)) (cI (mV 4 D_Scene_wantOf) [asV Value.ref (gR 0 3 (vR 0)), asV Value.int (vI 1), asV Value.int (vI 2)]) (vI 3))) (sRetZ (kI (ii 0))) (sSkip)) (sSeq (sCall (mV 11 D_History_remember) [asV Value.ref (gR 0 10 (vR 0)), asV Value.ref (gR 0 3 (vR 0))]) (sSeq (sAst 0 (gR 4 0 (gR 0 3 (vR 0))) (o2 (fun x y => x + y) (o2 (fun x y => x + y) (kI (ii 26)) (o2 (fun x y => x * y) (vI 1) (kI (ii 6)))) (vI 2)) (vI 3)) (sSeq (sCall (mV 4 D_Scene_choose) [asV Value.ref (gR 0 3 (vR 0))]) (sRetZ (kI (ii 1))))))
theorem mf_X_wish : Mf y_X_wish prog_1_method_13_code 4 (some .boolean) 3 := ⟨tw_1001, tw_122, by decide +kernel⟩
noncomputable def D_X_wish : Dn := runS [1, 1, 1, 1] F_X_wish
theorem ok_X_wish : MOK y_X_wish prog_1_method_13_code 4 (some .boolean) 3 0 0 D_X_wish := MOK.of (by decide) (by decide) (show SO Y_X_wish [(0, 1), (1, 1), (2, 1), (3, 1)] [(0, 1), (1, 1), (2, 1), (3, 1)] 0 79 (([], 0), ([], 0)) F_X_wish from
  (s_seq (sl1 := [(0, 1), (1, 1), (2, 1), (3, 1)]) (p1 := 41) (s_if (pt := 39) (pf := 41) (c_or (p1 := 26) (c_or (p1 := 20) (c_or (p1 := 16) (c_or (p1 := 8) (c_not (c_if_eqF (p1 := 5) (tg := 39) (e_cI (p1 := 2) (a_cons (ι := Value.ref) (k0 := 1) (p1 := 1) (fun _ => rfl) (e_aload_n (k0 := 0) d_X_wish_0 rfl rfl) (a_cons (ι := Value.int) (k0 := 1) (p1 := 2) (fun _ => rfl) (e_iload_n (k0 := 1) d_X_wish_1 rfl rfl) a_nil)) (k_virt ok_X_isGoer mf_X_isGoer ⟨tw_915, tw_24⟩ rfl tw_913 d_X_wish_2 (by decide) (by decide) (by decide))) d_X_wish_5 rfl)) (c_not (c_if_eqF (p1 := 13) (tg := 39) (e_cI (p1 := 10) (a_cons (ι := Value.ref) (k0 := 1) (p1 := 9) (fun _ => rfl) (e_aload_n (k0 := 0) d_X_wish_8 rfl rfl) (a_cons (ι := Value.int) (k0 := 1) (p1 := 10) (fun _ => rfl) (e_iload_n (k0 := 2) d_X_wish_9 rfl rfl) a_nil)) (k_virt ok_X_isRoad mf_X_isRoad ⟨tw_890, tw_23⟩ rfl tw_888 d_X_wish_10 (by decide) (by decide) (by decide))) d_X_wish_13 rfl))) (c_if_ltT (p1 := 17) (tg := 39) (e_iload_n (k0 := 3) d_X_wish_16 rfl rfl) d_X_wish_17 rfl)) (c_icmp_gtT (p1 := 21) (p2 := 23) (tg := 39) (e_iload_n (k0 := 3) d_X_wish_20 rfl rfl) (e_bipush d_X_wish_21 (by decide)) d_X_wish_23 rfl)) (c_icmp_neF (p1 := 35) (p2 := 36) (tg := 41) (e_cI (p1 := 32) (a_cons (ι := Value.ref) (k0 := 1) (p1 := 30) (fun _ => rfl) (e_gR (k0 := 3) (p1 := 27) cf_0 (e_aload_n (k0 := 0) d_X_wish_26 rfl rfl) (by decide) tw_568 d_X_wish_27) (a_cons (ι := Value.int) (k0 := 1) (p1 := 31) (fun _ => rfl) (e_iload_n (k0 := 1) d_X_wish_30 rfl rfl) (a_cons (ι := Value.int) (k0 := 1) (p1 := 32) (fun _ => rfl) (e_iload_n (k0 := 2) d_X_wish_31 rfl rfl) a_nil))) (k_virt ok_Scene_wantOf mf_Scene_wantOf ⟨tw_873, tw_874⟩ rfl tw_971 d_X_wish_32 (by decide) (by decide) (by decide))) (e_iload_n (k0 := 3) d_X_wish_35 rfl rfl) d_X_wish_36 rfl)) (s_retZ (p1 := 40) (e_iconst d_X_wish_39 (by decide)) rfl d_X_wish_40) s_skip) (s_seq (sl1 := [(0, 1), (1, 1), (2, 1), (3, 1)]) (p1 := 52) (s_call (p1 := 49) (a_cons (ι := Value.ref) (k0 := 1) (p1 := 45) (fun _ => rfl) (e_gR (k0 := 10) (p1 := 42) cf_0 (e_aload_n (k0 := 0) d_X_wish_41 rfl rfl) (by decide) tw_575 d_X_wish_42) (a_cons (ι := Value.ref) (k0 := 1) (p1 := 49) (fun _ => rfl) (e_gR (k0 := 3) (p1 := 46) cf_0 (e_aload_n (k0 := 0) d_X_wish_45 rfl rfl) (by decide) tw_568 d_X_wish_46) a_nil)) (k_virt ok_History_remember mf_History_remember ⟨tw_985, tw_986⟩ rfl tw_984 d_X_wish_49 (by decide) (by decide) (by decide))) (s_seq (sl1 := [(0, 1), (1, 1), (2, 1), (3, 1)]) (p1 := 70) (s_ast (p1 := 59) (p2 := 68) (p3 := 69) (e_gR (k0 := 0) (p1 := 56) cf_4 (e_gR (k0 := 3) (p1 := 53) cf_0 (e_aload_n (k0 := 0) d_X_wish_52 rfl rfl) (by decide) tw_568 d_X_wish_53) (by decide) tw_320 d_X_wish_56) (e_iadd (p1 := 66) (p2 := 67) (e_iadd (p1 := 61) (p2 := 65) (e_bipush d_X_wish_59 (by decide)) (e_imul (p1 := 62) (p2 := 64) (e_iload_n (k0 := 1) d_X_wish_61 rfl rfl) (e_bipush d_X_wish_62 (by decide)) d_X_wish_64) d_X_wish_65) (e_iload_n (k0 := 2) d_X_wish_66 rfl rfl) d_X_wish_67) (e_iload_n (k0 := 3) d_X_wish_68 rfl rfl) (as_i d_X_wish_69)) (s_seq (sl1 := [(0, 1), (1, 1), (2, 1), (3, 1)]) (p1 := 77) (s_call (p1 := 74) (a_cons (ι := Value.ref) (k0 := 1) (p1 := 74) (fun _ => rfl) (e_gR (k0 := 3) (p1 := 71) cf_0 (e_aload_n (k0 := 0) d_X_wish_70 rfl rfl) (by decide) tw_568 d_X_wish_71) a_nil) (k_virt ok_Scene_choose mf_Scene_choose ⟨tw_861, tw_862⟩ rfl tw_993 d_X_wish_74 (by decide) (by decide) (by decide))) (s_retZ (p1 := 78) (e_iconst d_X_wish_77 (by decide)) rfl d_X_wish_78))))))
/-! BlinkerCross.days(I)I -/
abbrev y_X_days : MethodName := ⟨"BlinkerCross", "days", "(I)I"⟩
abbrev Y_X_days : Yt := (prog_1_method_14_code, 2, "BlinkerCross", 6, (some .int), "days")
theorem d_X_days_0 : decode prog_1_method_14_code 0 = .ok (.iload_n 1, 1) := by decide +kernel
theorem d_X_days_1 : decode prog_1_method_14_code 1 = .ok (.ifCond .lt 9, 3) := by decide +kernel
theorem d_X_days_4 : decode prog_1_method_14_code 4 = .ok (.iload_n 1, 1) := by decide +kernel
theorem d_X_days_5 : decode prog_1_method_14_code 5 = .ok (.bipush 60, 2) := by decide +kernel
theorem d_X_days_7 : decode prog_1_method_14_code 7 = .ok (.if_icmp .le 5, 3) := by decide +kernel
theorem d_X_days_10 : decode prog_1_method_14_code 10 = .ok (.iconst (-1), 1) := by decide +kernel
theorem d_X_days_11 : decode prog_1_method_14_code 11 = .ok (.ireturn, 1) := by decide +kernel
theorem d_X_days_12 : decode prog_1_method_14_code 12 = .ok (.iload_n 1, 1) := by decide +kernel
theorem d_X_days_13 : decode prog_1_method_14_code 13 = .ok (.ifCond .le 33, 3) := by decide +kernel
theorem d_X_days_16 : decode prog_1_method_14_code 16 = .ok (.aload_n 0, 1) := by decide +kernel
theorem d_X_days_17 : decode prog_1_method_14_code 17 = .ok (.getfield 92, 3) := by decide +kernel
theorem d_X_days_20 : decode prog_1_method_14_code 20 = .ok (.aload_n 0, 1) := by decide +kernel
theorem d_X_days_21 : decode prog_1_method_14_code 21 = .ok (.getfield 37, 3) := by decide +kernel
theorem d_X_days_24 : decode prog_1_method_14_code 24 = .ok (.invokevirtual 185, 3) := by decide +kernel
theorem d_X_days_27 : decode prog_1_method_14_code 27 = .ok (.aload_n 0, 1) := by decide +kernel
theorem d_X_days_28 : decode prog_1_method_14_code 28 = .ok (.getfield 53, 3) := by decide +kernel
theorem d_X_days_31 : decode prog_1_method_14_code 31 = .ok (.aload_n 0, 1) := by decide +kernel
theorem d_X_days_32 : decode prog_1_method_14_code 32 = .ok (.getfield 37, 3) := by decide +kernel
theorem d_X_days_35 : decode prog_1_method_14_code 35 = .ok (.iload_n 1, 1) := by decide +kernel
theorem d_X_days_36 : decode prog_1_method_14_code 36 = .ok (.aload_n 0, 1) := by decide +kernel
theorem d_X_days_37 : decode prog_1_method_14_code 37 = .ok (.getfield 19, 3) := by decide +kernel
theorem d_X_days_40 : decode prog_1_method_14_code 40 = .ok (.getfield 192, 3) := by decide +kernel
theorem d_X_days_43 : decode prog_1_method_14_code 43 = .ok (.invokevirtual 195, 3) := by decide +kernel
theorem d_X_days_46 : decode prog_1_method_14_code 46 = .ok (.aload_n 0, 1) := by decide +kernel
theorem d_X_days_47 : decode prog_1_method_14_code 47 = .ok (.getfield 37, 3) := by decide +kernel
theorem d_X_days_50 : decode prog_1_method_14_code 50 = .ok (.getfield 151, 3) := by decide +kernel
theorem d_X_days_53 : decode prog_1_method_14_code 53 = .ok (.bipush 25, 2) := by decide +kernel
theorem d_X_days_55 : decode prog_1_method_14_code 55 = .ok (.iaload, 1) := by decide +kernel
theorem d_X_days_56 : decode prog_1_method_14_code 56 = .ok (.ireturn, 1) := by decide +kernel
noncomputable def F_X_days : Sm := sSeq (sIf (cOr (o1 (fun x => decide (x < 0)) (vI 1)) (o2 (fun x y => decide (x > y)) (vI 1) (kI (ii 60)))) (sRet (asV Value.int (kI (ii (-1))))) (sSkip)) (sSeq (sIf (o1 (fun x => decide (x > 0)) (vI 1)) (sSeq (sCall (mV 11 D_History_remember) [asV Value.ref (gR 0 10 (vR 0)), asV Value.ref (gR 0 3 (vR 0))]) (sCall (mV 6 D_Days_pass) [asV Value.ref (gR 0 5 (vR 0)), asV Value.ref (gR 0 3 (vR 0)), asV Value.int (vI 1), asV Value.int (gI 2 2 (gR 0 1 (vR 0)))])) (sSkip)) (sRet (asV Value.int (aI 0 (gR 4 0 (gR 0 3 (vR 0))) (kI (ii 25))))))
theorem mf_X_days : Mf y_X_days prog_1_method_14_code 2 (some .int) 1 := ⟨tw_1005, tw_122, by decide +kernel⟩
noncomputable def D_X_days : Dn := runS [1, 1] F_X_days
theorem ok_X_days : MOK y_X_days prog_1_method_14_code 2 (some .int) 6 0 0 D_X_days := MOK.of (by decide) (by decide) (show SO Y_X_days [(0, 1), (1, 1)] [(0, 1), (1, 1)] 0 57 (([], 0), ([], 0)) F_X_days from
  (s_seq (sl1 := [(0, 1), (1, 1)]) (p1 := 12) (s_if (pt := 10) (pf := 12) (c_or (p1 := 4) (c_if_ltT (p1 := 1) (tg := 10) (e_iload_n (k0 := 1) d_X_days_0 rfl rfl) d_X_days_1 rfl) (c_icmp_leF (p1 := 5) (p2 := 7) (tg := 12) (e_iload_n (k0 := 1) d_X_days_4 rfl rfl) (e_bipush d_X_days_5 (by decide)) d_X_days_7 rfl)) (s_ret (p1 := 11) (e_iconst d_X_days_10 (by decide)) rfl d_X_days_11) s_skip) (s_seq (sl1 := [(0, 1), (1, 1)]) (p1 := 46) (s_if (pt := 16) (pf := 46) (c_if_leF (p1 := 13) (tg := 46) (e_iload_n (k0 := 1) d_X_days_12 rfl rfl) d_X_days_13 rfl) (s_seq (sl1 := [(0, 1), (1, 1)]) (p1 := 27) (s_call (p1 := 24) (a_cons (ι := Value.ref) (k0 := 1) (p1 := 20) (fun _ => rfl) (e_gR (k0 := 10) (p1 := 17) cf_0 (e_aload_n (k0 := 0) d_X_days_16 rfl rfl) (by decide) tw_575 d_X_days_17) (a_cons (ι := Value.ref) (k0 := 1) (p1 := 24) (fun _ => rfl) (e_gR (k0 := 3) (p1 := 21) cf_0 (e_aload_n (k0 := 0) d_X_days_20 rfl rfl) (by decide) tw_568 d_X_days_21) a_nil)) (k_virt ok_History_remember mf_History_remember ⟨tw_985, tw_986⟩ rfl tw_984 d_X_days_24 (by decide) (by decide) (by decide))) (s_call (p1 := 43) (a_cons (ι := Value.ref) (k0 := 1) (p1 := 31) (fun _ => rfl) (e_gR (k0 := 5) (p1 := 28) cf_0 (e_aload_n (k0 := 0) d_X_days_27 rfl rfl) (by decide) tw_570 d_X_days_28) (a_cons (ι := Value.ref) (k0 := 1) (p1 := 35) (fun _ => rfl) (e_gR (k0 := 3) (p1 := 32) cf_0 (e_aload_n (k0 := 0) d_X_days_31 rfl rfl) (by decide) tw_568 d_X_days_32) (a_cons (ι := Value.int) (k0 := 1) (p1 := 36) (fun _ => rfl) (e_iload_n (k0 := 1) d_X_days_35 rfl rfl) (a_cons (ι := Value.int) (k0 := 1) (p1 := 43) (fun _ => rfl) (e_gI (k0 := 2) (p1 := 40) cf_2 (e_gR (k0 := 1) (p1 := 37) cf_0 (e_aload_n (k0 := 0) d_X_days_36 rfl rfl) (by decide) tw_566 d_X_days_37) (by decide) tw_216 d_X_days_40) a_nil)))) (k_virt ok_Days_pass mf_Days_pass ⟨tw_1007, tw_1008⟩ rfl tw_1006 d_X_days_43 (by decide) (by decide) (by decide)))) s_skip) (s_ret (p1 := 56) (e_iald (p1 := 53) (p2 := 55) (e_gR (k0 := 0) (p1 := 50) cf_4 (e_gR (k0 := 3) (p1 := 47) cf_0 (e_aload_n (k0 := 0) d_X_days_46 rfl rfl) (by decide) tw_568 d_X_days_47) (by decide) tw_320 d_X_days_50) (e_bipush d_X_days_53 (by decide)) d_X_days_55) rfl d_X_days_56))))
/-! BlinkerCross.undo()Z -/
abbrev y_X_undo : MethodName := ⟨"BlinkerCross", "undo", "()Z"⟩
abbrev Y_X_undo : Yt := (prog_1_method_15_code, 1, "BlinkerCross", 5, (some .boolean), "undo")
theorem d_X_undo_0 : decode prog_1_method_15_code 0 = .ok (.aload_n 0, 1) := by decide +kernel
theorem d_X_undo_1 : decode prog_1_method_15_code 1 = .ok (.getfield 92, 3) := by decide +kernel
theorem d_X_undo_4 : decode prog_1_method_15_code 4 = .ok (.aload_n 0, 1) := by decide +kernel
theorem d_X_undo_5 : decode prog_1_method_15_code 5 = .ok (.getfield 37, 3) := by decide +kernel
theorem d_X_undo_8 : decode prog_1_method_15_code 8 = .ok (.invokevirtual 199, 3) := by decide +kernel
theorem d_X_undo_11 : decode prog_1_method_15_code 11 = .ok (.ireturn, 1) := by decide +kernel
noncomputable def F_X_undo : Sm := sRetZ (cI (mV 11 D_History_takeBack) [asV Value.ref (gR 0 10 (vR 0)), asV Value.ref (gR 0 3 (vR 0))])
theorem mf_X_undo : Mf y_X_undo prog_1_method_15_code 1 (some .boolean) 0 := ⟨tw_1037, tw_122, by decide +kernel⟩
noncomputable def D_X_undo : Dn := runS [1] F_X_undo
theorem ok_X_undo : MOK y_X_undo prog_1_method_15_code 1 (some .boolean) 5 0 0 D_X_undo := MOK.of (by decide) (by decide) (show SO Y_X_undo [(0, 1)] [(0, 1)] 0 12 (([], 0), ([], 0)) F_X_undo from
  (s_retZ (p1 := 11) (e_cI (p1 := 8) (a_cons (ι := Value.ref) (k0 := 1) (p1 := 4) (fun _ => rfl) (e_gR (k0 := 10) (p1 := 1) cf_0 (e_aload_n (k0 := 0) d_X_undo_0 rfl rfl) (by decide) tw_575 d_X_undo_1) (a_cons (ι := Value.ref) (k0 := 1) (p1 := 8) (fun _ => rfl) (e_gR (k0 := 3) (p1 := 5) cf_0 (e_aload_n (k0 := 0) d_X_undo_4 rfl rfl) (by decide) tw_568 d_X_undo_5) a_nil)) (k_virt ok_History_takeBack mf_History_takeBack ⟨tw_1039, tw_1040⟩ rfl tw_1038 d_X_undo_8 (by decide) (by decide) (by decide))) rfl d_X_undo_11))
/-! BlinkerCross.plan(II)I -/
abbrev y_X_plan : MethodName := ⟨"BlinkerCross", "plan", "(II)I"⟩
abbrev Y_X_plan : Yt := (prog_1_method_16_code, 3, "BlinkerCross", 10, (some .int), "plan")
theorem d_X_plan_0 : decode prog_1_method_16_code 0 = .ok (.iload_n 1, 1) := by decide +kernel
theorem d_X_plan_1 : decode prog_1_method_16_code 1 = .ok (.ifCond .lt 27, 3) := by decide +kernel
theorem d_X_plan_4 : decode prog_1_method_16_code 4 = .ok (.iload_n 1, 1) := by decide +kernel
theorem d_X_plan_5 : decode prog_1_method_16_code 5 = .ok (.sipush 999, 3) := by decide +kernel
theorem d_X_plan_8 : decode prog_1_method_16_code 8 = .ok (.if_icmp .gt 20, 3) := by decide +kernel
theorem d_X_plan_11 : decode prog_1_method_16_code 11 = .ok (.iload_n 2, 1) := by decide +kernel
theorem d_X_plan_12 : decode prog_1_method_16_code 12 = .ok (.bipush (-2), 2) := by decide +kernel
theorem d_X_plan_14 : decode prog_1_method_16_code 14 = .ok (.if_icmp .lt 14, 3) := by decide +kernel
theorem d_X_plan_17 : decode prog_1_method_16_code 17 = .ok (.iload_n 2, 1) := by decide +kernel
theorem d_X_plan_18 : decode prog_1_method_16_code 18 = .ok (.aload_n 0, 1) := by decide +kernel
theorem d_X_plan_19 : decode prog_1_method_16_code 19 = .ok (.getfield 19, 3) := by decide +kernel
theorem d_X_plan_22 : decode prog_1_method_16_code 22 = .ok (.getfield 203, 3) := by decide +kernel
theorem d_X_plan_25 : decode prog_1_method_16_code 25 = .ok (.if_icmp .lt 5, 3) := by decide +kernel
theorem d_X_plan_28 : decode prog_1_method_16_code 28 = .ok (.iconst (-1), 1) := by decide +kernel
theorem d_X_plan_29 : decode prog_1_method_16_code 29 = .ok (.ireturn, 1) := by decide +kernel
theorem d_X_plan_30 : decode prog_1_method_16_code 30 = .ok (.aload_n 0, 1) := by decide +kernel
theorem d_X_plan_31 : decode prog_1_method_16_code 31 = .ok (.getfield 62, 3) := by decide +kernel
theorem d_X_plan_34 : decode prog_1_method_16_code 34 = .ok (.iload_n 1, 1) := by decide +kernel
theorem d_X_plan_35 : decode prog_1_method_16_code 35 = .ok (.invokevirtual 206, 3) := by decide +kernel
theorem d_X_plan_38 : decode prog_1_method_16_code 38 = .ok (.aload_n 0, 1) := by decide +kernel
theorem d_X_plan_39 : decode prog_1_method_16_code 39 = .ok (.getfield 62, 3) := by decide +kernel
theorem d_X_plan_42 : decode prog_1_method_16_code 42 = .ok (.getfield 209, 3) := by decide +kernel
theorem d_X_plan_45 : decode prog_1_method_16_code 45 = .ok (.ifCond .ne 6, 3) := by decide +kernel
theorem d_X_plan_48 : decode prog_1_method_16_code 48 = .ok (.bipush (-3), 2) := by decide +kernel
theorem d_X_plan_50 : decode prog_1_method_16_code 50 = .ok (.ireturn, 1) := by decide +kernel
theorem d_X_plan_51 : decode prog_1_method_16_code 51 = .ok (.iload_n 2, 1) := by decide +kernel
theorem d_X_plan_52 : decode prog_1_method_16_code 52 = .ok (.iconst (-1), 1) := by decide +kernel
theorem d_X_plan_53 : decode prog_1_method_16_code 53 = .ok (.if_icmp .ne 11, 3) := by decide +kernel
theorem d_X_plan_56 : decode prog_1_method_16_code 56 = .ok (.aload_n 0, 1) := by decide +kernel
theorem d_X_plan_57 : decode prog_1_method_16_code 57 = .ok (.getfield 62, 3) := by decide +kernel
theorem d_X_plan_60 : decode prog_1_method_16_code 60 = .ok (.getfield 213, 3) := by decide +kernel
theorem d_X_plan_63 : decode prog_1_method_16_code 63 = .ok (.ireturn, 1) := by decide +kernel
theorem d_X_plan_64 : decode prog_1_method_16_code 64 = .ok (.iload_n 2, 1) := by decide +kernel
theorem d_X_plan_65 : decode prog_1_method_16_code 65 = .ok (.ifCond .ge 13, 3) := by decide +kernel
theorem d_X_plan_68 : decode prog_1_method_16_code 68 = .ok (.aload_n 0, 1) := by decide +kernel
theorem d_X_plan_69 : decode prog_1_method_16_code 69 = .ok (.getfield 62, 3) := by decide +kernel
theorem d_X_plan_72 : decode prog_1_method_16_code 72 = .ok (.getfield 216, 3) := by decide +kernel
theorem d_X_plan_75 : decode prog_1_method_16_code 75 = .ok (.goto 12, 3) := by decide +kernel
theorem d_X_plan_78 : decode prog_1_method_16_code 78 = .ok (.aload_n 0, 1) := by decide +kernel
theorem d_X_plan_79 : decode prog_1_method_16_code 79 = .ok (.getfield 62, 3) := by decide +kernel
theorem d_X_plan_82 : decode prog_1_method_16_code 82 = .ok (.getfield 219, 3) := by decide +kernel
theorem d_X_plan_85 : decode prog_1_method_16_code 85 = .ok (.iload_n 2, 1) := by decide +kernel
theorem d_X_plan_86 : decode prog_1_method_16_code 86 = .ok (.iaload, 1) := by decide +kernel
theorem d_X_plan_87 : decode prog_1_method_16_code 87 = .ok (.ireturn, 1) := by decide +kernel
noncomputable def F_X_plan : Sm := sSeq (sIf (cOr (cOr (cOr (o1 (fun x => decide (x < 0)) (vI 1)) (o2 (fun x y => decide (x > y)) (vI 1) (kI (ii 999)))) (o2 (fun x y => decide (x < y)) (vI 2) (kI (ii (-2))))) (o2 (fun x y => decide (x ≥ y)) (vI 2) (gI 2 1 (gR 0 1 (vR 0))))) (sRet (asV Value.int (kI (ii (-1))))) (sSkip)) (sSeq (sCall (mV 7 D_Plan_make) [asV Value.ref (gR 0 6 (vR 0)), asV Value.int (vI 1)]) (sSeq (sIf (cNot (o1 (fun x => decide (x ≠ 0)) (gI 7 0 (gR 0 6 (vR 0))))) (sRet (asV Value.int (kI (ii (-3))))) (sSkip)) (sSeq (sIf (o2 (fun x y => decide (x = y)) (vI 2) (kI (ii (-1)))) (sRet (asV Value.int (gI 7 1 (gR 0 6 (vR 0))))) (sSkip)) (sRet (asV Value.int (iX (o1 (fun x => decide (x < 0)) (vI 2)) (gI 7 2 (gR 0 6 (vR 0))) (aI 0 (gR 7 3 (gR 0 6 (vR 0))) (vI 2))))))))
theorem mf_X_plan : Mf y_X_plan prog_1_method_16_code 3 (some .int) 2 := ⟨tw_1049, tw_122, by decide +kernel⟩
noncomputable def D_X_plan : Dn := runS [1, 1, 1] F_X_plan
theorem ok_X_plan : MOK y_X_plan prog_1_method_16_code 3 (some .int) 10 0 0 D_X_plan := MOK.of (by decide) (by decide) (show SO Y_X_plan [(0, 1), (1, 1), (2, 1)] [(0, 1), (1, 1), (2, 1)] 0 88 (([], 0), ([], 0)) F_X_plan from
  (s_seq (sl1 := [(0, 1), (1, 1), (2, 1)]) (p1 := 30) (s_if (pt := 28) (pf := 30) (c_or (p1 := 17) (c_or (p1 := 11) (c_or (p1 := 4) (c_if_ltT (p1 := 1) (tg := 28) (e_iload_n (k0 := 1) d_X_plan_0 rfl rfl) d_X_plan_1 rfl) (c_icmp_gtT (p1 := 5) (p2 := 8) (tg := 28) (e_iload_n (k0 := 1) d_X_plan_4 rfl rfl) (e_sipush d_X_plan_5 (by decide)) d_X_plan_8 rfl)) (c_icmp_ltT (p1 := 12) (p2 := 14) (tg := 28) (e_iload_n (k0 := 2) d_X_plan_11 rfl rfl) (e_bipush d_X_plan_12 (by decide)) d_X_plan_14 rfl)) (c_icmp_ltF (p1 := 18) (p2 := 25) (tg := 30) (e_iload_n (k0 := 2) d_X_plan_17 rfl rfl) (e_gI (k0 := 1) (p1 := 22) cf_2 (e_gR (k0 := 1) (p1 := 19) cf_0 (e_aload_n (k0 := 0) d_X_plan_18 rfl rfl) (by decide) tw_566 d_X_plan_19) (by decide) tw_213 d_X_plan_22) d_X_plan_25 rfl)) (s_ret (p1 := 29) (e_iconst d_X_plan_28 (by decide)) rfl d_X_plan_29) s_skip) (s_seq (sl1 := [(0, 1), (1, 1), (2, 1)]) (p1 := 38) (s_call (p1 := 35) (a_cons (ι := Value.ref) (k0 := 1) (p1 := 34) (fun _ => rfl) (e_gR (k0 := 6) (p1 := 31) cf_0 (e_aload_n (k0 := 0) d_X_plan_30 rfl rfl) (by decide) tw_571 d_X_plan_31) (a_cons (ι := Value.int) (k0 := 1) (p1 := 35) (fun _ => rfl) (e_iload_n (k0 := 1) d_X_plan_34 rfl rfl) a_nil)) (k_virt ok_Plan_make mf_Plan_make ⟨tw_1051, tw_1052⟩ rfl tw_1050 d_X_plan_35 (by decide) (by decide) (by decide))) (s_seq (sl1 := [(0, 1), (1, 1), (2, 1)]) (p1 := 51) (s_if (pt := 48) (pf := 51) (c_not (c_if_neT (p1 := 45) (tg := 51) (e_gI (k0 := 0) (p1 := 42) cf_7 (e_gR (k0 := 6) (p1 := 39) cf_0 (e_aload_n (k0 := 0) d_X_plan_38 rfl rfl) (by decide) tw_571 d_X_plan_39) (by decide) tw_386 d_X_plan_42) d_X_plan_45 rfl)) (s_ret (p1 := 50) (e_bipush d_X_plan_48 (by decide)) rfl d_X_plan_50) s_skip) (s_seq (sl1 := [(0, 1), (1, 1), (2, 1)]) (p1 := 64) (s_if (pt := 56) (pf := 64) (c_icmp_neF (p1 := 52) (p2 := 53) (tg := 64) (e_iload_n (k0 := 2) d_X_plan_51 rfl rfl) (e_iconst d_X_plan_52 (by decide)) d_X_plan_53 rfl) (s_ret (p1 := 63) (e_gI (k0 := 1) (p1 := 60) cf_7 (e_gR (k0 := 6) (p1 := 57) cf_0 (e_aload_n (k0 := 0) d_X_plan_56 rfl rfl) (by decide) tw_571 d_X_plan_57) (by decide) tw_388 d_X_plan_60) rfl d_X_plan_63) s_skip) (s_ret (p1 := 87) (e_ite (pt := 68) (p1 := 75) (pf := 78) (c_if_geF (p1 := 65) (tg := 78) (e_iload_n (k0 := 2) d_X_plan_64 rfl rfl) d_X_plan_65 rfl) (e_gI (k0 := 2) (p1 := 72) cf_7 (e_gR (k0 := 6) (p1 := 69) cf_0 (e_aload_n (k0 := 0) d_X_plan_68 rfl rfl) (by decide) tw_571 d_X_plan_69) (by decide) tw_390 d_X_plan_72) d_X_plan_75 rfl (e_iald (p1 := 85) (p2 := 86) (e_gR (k0 := 3) (p1 := 82) cf_7 (e_gR (k0 := 6) (p1 := 79) cf_0 (e_aload_n (k0 := 0) d_X_plan_78 rfl rfl) (by decide) tw_571 d_X_plan_79) (by decide) tw_392 d_X_plan_82) (e_iload_n (k0 := 2) d_X_plan_85 rfl rfl) d_X_plan_86)) rfl d_X_plan_87))))))
/-! BlinkerCross.rests()I -/
abbrev y_X_rests : MethodName := ⟨"BlinkerCross", "rests", "()I"⟩
abbrev Y_X_rests : Yt := (prog_1_method_17_code, 1, "BlinkerCross", 12, (some .int), "rests")
theorem d_X_rests_0 : decode prog_1_method_17_code 0 = .ok (.aload_n 0, 1) := by decide +kernel
theorem d_X_rests_1 : decode prog_1_method_17_code 1 = .ok (.getfield 69, 3) := by decide +kernel
theorem d_X_rests_4 : decode prog_1_method_17_code 4 = .ok (.invokevirtual 222, 3) := by decide +kernel
theorem d_X_rests_7 : decode prog_1_method_17_code 7 = .ok (.aload_n 0, 1) := by decide +kernel
theorem d_X_rests_8 : decode prog_1_method_17_code 8 = .ok (.getfield 69, 3) := by decide +kernel
theorem d_X_rests_11 : decode prog_1_method_17_code 11 = .ok (.getfield 225, 3) := by decide +kernel
theorem d_X_rests_14 : decode prog_1_method_17_code 14 = .ok (.ireturn, 1) := by decide +kernel
noncomputable def F_X_rests : Sm := sSeq (sCall (mV 8 D_Givings_weighAll) [asV Value.ref (gR 0 7 (vR 0))]) (sRet (asV Value.int (gI 8 0 (gR 0 7 (vR 0)))))
theorem mf_X_rests : Mf y_X_rests prog_1_method_17_code 1 (some .int) 0 := ⟨tw_1079, tw_122, by decide +kernel⟩
noncomputable def D_X_rests : Dn := runS [1] F_X_rests
theorem ok_X_rests : MOK y_X_rests prog_1_method_17_code 1 (some .int) 12 0 0 D_X_rests := MOK.of (by decide) (by decide) (show SO Y_X_rests [(0, 1)] [(0, 1)] 0 15 (([], 0), ([], 0)) F_X_rests from
  (s_seq (sl1 := [(0, 1)]) (p1 := 7) (s_call (p1 := 4) (a_cons (ι := Value.ref) (k0 := 1) (p1 := 4) (fun _ => rfl) (e_gR (k0 := 7) (p1 := 1) cf_0 (e_aload_n (k0 := 0) d_X_rests_0 rfl rfl) (by decide) tw_572 d_X_rests_1) a_nil) (k_virt ok_Givings_weighAll mf_Givings_weighAll ⟨tw_1081, tw_1082⟩ rfl tw_1080 d_X_rests_4 (by decide) (by decide) (by decide))) (s_ret (p1 := 14) (e_gI (k0 := 0) (p1 := 11) cf_8 (e_gR (k0 := 7) (p1 := 8) cf_0 (e_aload_n (k0 := 0) d_X_rests_7 rfl rfl) (by decide) tw_572 d_X_rests_8) (by decide) tw_439 d_X_rests_11) rfl d_X_rests_14)))
/-! BlinkerCross.bestRest(I)I -/
abbrev y_X_bestRest : MethodName := ⟨"BlinkerCross", "bestRest", "(I)I"⟩
abbrev Y_X_bestRest : Yt := (prog_1_method_18_code, 2, "BlinkerCross", 12, (some .int), "bestRest")
theorem d_X_bestRest_0 : decode prog_1_method_18_code 0 = .ok (.iload_n 1, 1) := by decide +kernel
theorem d_X_bestRest_1 : decode prog_1_method_18_code 1 = .ok (.iconst (-1), 1) := by decide +kernel
theorem d_X_bestRest_2 : decode prog_1_method_18_code 2 = .ok (.if_icmp .lt 14, 3) := by decide +kernel
theorem d_X_bestRest_5 : decode prog_1_method_18_code 5 = .ok (.iload_n 1, 1) := by decide +kernel
theorem d_X_bestRest_6 : decode prog_1_method_18_code 6 = .ok (.aload_n 0, 1) := by decide +kernel
theorem d_X_bestRest_7 : decode prog_1_method_18_code 7 = .ok (.getfield 19, 3) := by decide +kernel
theorem d_X_bestRest_10 : decode prog_1_method_18_code 10 = .ok (.getfield 203, 3) := by decide +kernel
theorem d_X_bestRest_13 : decode prog_1_method_18_code 13 = .ok (.if_icmp .lt 6, 3) := by decide +kernel
theorem d_X_bestRest_16 : decode prog_1_method_18_code 16 = .ok (.ldc 177, 2) := by decide +kernel
theorem d_X_bestRest_18 : decode prog_1_method_18_code 18 = .ok (.ireturn, 1) := by decide +kernel
theorem d_X_bestRest_19 : decode prog_1_method_18_code 19 = .ok (.aload_n 0, 1) := by decide +kernel
theorem d_X_bestRest_20 : decode prog_1_method_18_code 20 = .ok (.getfield 69, 3) := by decide +kernel
theorem d_X_bestRest_23 : decode prog_1_method_18_code 23 = .ok (.invokevirtual 222, 3) := by decide +kernel
theorem d_X_bestRest_26 : decode prog_1_method_18_code 26 = .ok (.aload_n 0, 1) := by decide +kernel
theorem d_X_bestRest_27 : decode prog_1_method_18_code 27 = .ok (.getfield 69, 3) := by decide +kernel
theorem d_X_bestRest_30 : decode prog_1_method_18_code 30 = .ok (.getfield 225, 3) := by decide +kernel
theorem d_X_bestRest_33 : decode prog_1_method_18_code 33 = .ok (.ifCond .ne 6, 3) := by decide +kernel
theorem d_X_bestRest_36 : decode prog_1_method_18_code 36 = .ok (.ldc 177, 2) := by decide +kernel
theorem d_X_bestRest_38 : decode prog_1_method_18_code 38 = .ok (.ireturn, 1) := by decide +kernel
theorem d_X_bestRest_39 : decode prog_1_method_18_code 39 = .ok (.iload_n 1, 1) := by decide +kernel
theorem d_X_bestRest_40 : decode prog_1_method_18_code 40 = .ok (.ifCond .ge 13, 3) := by decide +kernel
theorem d_X_bestRest_43 : decode prog_1_method_18_code 43 = .ok (.aload_n 0, 1) := by decide +kernel
theorem d_X_bestRest_44 : decode prog_1_method_18_code 44 = .ok (.getfield 69, 3) := by decide +kernel
theorem d_X_bestRest_47 : decode prog_1_method_18_code 47 = .ok (.getfield 228, 3) := by decide +kernel
theorem d_X_bestRest_50 : decode prog_1_method_18_code 50 = .ok (.goto 12, 3) := by decide +kernel
theorem d_X_bestRest_53 : decode prog_1_method_18_code 53 = .ok (.aload_n 0, 1) := by decide +kernel
theorem d_X_bestRest_54 : decode prog_1_method_18_code 54 = .ok (.getfield 69, 3) := by decide +kernel
theorem d_X_bestRest_57 : decode prog_1_method_18_code 57 = .ok (.getfield 231, 3) := by decide +kernel
theorem d_X_bestRest_60 : decode prog_1_method_18_code 60 = .ok (.iload_n 1, 1) := by decide +kernel
theorem d_X_bestRest_61 : decode prog_1_method_18_code 61 = .ok (.iaload, 1) := by decide +kernel
theorem d_X_bestRest_62 : decode prog_1_method_18_code 62 = .ok (.ireturn, 1) := by decide +kernel
noncomputable def F_X_bestRest : Sm := sSeq (sIf (cOr (o2 (fun x y => decide (x < y)) (vI 1) (kI (ii (-1)))) (o2 (fun x y => decide (x ≥ y)) (vI 1) (gI 2 1 (gR 0 1 (vR 0))))) (sRet (asV Value.int (kI (ii (-100000))))) (sSkip)) (sSeq (sCall (mV 8 D_Givings_weighAll) [asV Value.ref (gR 0 7 (vR 0))]) (sSeq (sIf (o1 (fun x => decide (x = 0)) (gI 8 0 (gR 0 7 (vR 0)))) (sRet (asV Value.int (kI (ii (-100000))))) (sSkip)) (sRet (asV Value.int (iX (o1 (fun x => decide (x < 0)) (vI 1)) (gI 8 1 (gR 0 7 (vR 0))) (aI 0 (gR 8 3 (gR 0 7 (vR 0))) (vI 1)))))))
theorem mf_X_bestRest : Mf y_X_bestRest prog_1_method_18_code 2 (some .int) 1 := ⟨tw_1121, tw_122, by decide +kernel⟩
noncomputable def D_X_bestRest : Dn := runS [1, 1] F_X_bestRest
theorem ok_X_bestRest : MOK y_X_bestRest prog_1_method_18_code 2 (some .int) 12 0 0 D_X_bestRest := MOK.of (by decide) (by decide) (show SO Y_X_bestRest [(0, 1), (1, 1)] [(0, 1), (1, 1)] 0 63 (([], 0), ([], 0)) F_X_bestRest from
  (s_seq (sl1 := [(0, 1), (1, 1)]) (p1 := 19) (s_if (pt := 16) (pf := 19) (c_or (p1 := 5) (c_icmp_ltT (p1 := 1) (p2 := 2) (tg := 16) (e_iload_n (k0 := 1) d_X_bestRest_0 rfl rfl) (e_iconst d_X_bestRest_1 (by decide)) d_X_bestRest_2 rfl) (c_icmp_ltF (p1 := 6) (p2 := 13) (tg := 19) (e_iload_n (k0 := 1) d_X_bestRest_5 rfl rfl) (e_gI (k0 := 1) (p1 := 10) cf_2 (e_gR (k0 := 1) (p1 := 7) cf_0 (e_aload_n (k0 := 0) d_X_bestRest_6 rfl rfl) (by decide) tw_566 d_X_bestRest_7) (by decide) tw_213 d_X_bestRest_10) d_X_bestRest_13 rfl)) (s_ret (p1 := 18) (e_ldc d_X_bestRest_16 tw_966) rfl d_X_bestRest_18) s_skip) (s_seq (sl1 := [(0, 1), (1, 1)]) (p1 := 26) (s_call (p1 := 23) (a_cons (ι := Value.ref) (k0 := 1) (p1 := 23) (fun _ => rfl) (e_gR (k0 := 7) (p1 := 20) cf_0 (e_aload_n (k0 := 0) d_X_bestRest_19 rfl rfl) (by decide) tw_572 d_X_bestRest_20) a_nil) (k_virt ok_Givings_weighAll mf_Givings_weighAll ⟨tw_1081, tw_1082⟩ rfl tw_1080 d_X_bestRest_23 (by decide) (by decide) (by decide))) (s_seq (sl1 := [(0, 1), (1, 1)]) (p1 := 39) (s_if (pt := 36) (pf := 39) (c_if_neF (p1 := 33) (tg := 39) (e_gI (k0 := 0) (p1 := 30) cf_8 (e_gR (k0 := 7) (p1 := 27) cf_0 (e_aload_n (k0 := 0) d_X_bestRest_26 rfl rfl) (by decide) tw_572 d_X_bestRest_27) (by decide) tw_439 d_X_bestRest_30) d_X_bestRest_33 rfl) (s_ret (p1 := 38) (e_ldc d_X_bestRest_36 tw_966) rfl d_X_bestRest_38) s_skip) (s_ret (p1 := 62) (e_ite (pt := 43) (p1 := 50) (pf := 53) (c_if_geF (p1 := 40) (tg := 53) (e_iload_n (k0 := 1) d_X_bestRest_39 rfl rfl) d_X_bestRest_40 rfl) (e_gI (k0 := 1) (p1 := 47) cf_8 (e_gR (k0 := 7) (p1 := 44) cf_0 (e_aload_n (k0 := 0) d_X_bestRest_43 rfl rfl) (by decide) tw_572 d_X_bestRest_44) (by decide) tw_441 d_X_bestRest_47) d_X_bestRest_50 rfl (e_iald (p1 := 60) (p2 := 61) (e_gR (k0 := 3) (p1 := 57) cf_8 (e_gR (k0 := 7) (p1 := 54) cf_0 (e_aload_n (k0 := 0) d_X_bestRest_53 rfl rfl) (by decide) tw_572 d_X_bestRest_54) (by decide) tw_445 d_X_bestRest_57) (e_iload_n (k0 := 1) d_X_bestRest_60 rfl rfl) d_X_bestRest_61)) rfl d_X_bestRest_62)))))
/-! BlinkerCross.bestGiving(I)I -/
abbrev y_X_bestGiving : MethodName := ⟨"BlinkerCross", "bestGiving", "(I)I"⟩
abbrev Y_X_bestGiving : Yt := (prog_1_method_19_code, 2, "BlinkerCross", 12, (some .int), "bestGiving")
theorem d_X_bestGiving_0 : decode prog_1_method_19_code 0 = .ok (.iload_n 1, 1) := by decide +kernel
theorem d_X_bestGiving_1 : decode prog_1_method_19_code 1 = .ok (.iconst (-1), 1) := by decide +kernel
theorem d_X_bestGiving_2 : decode prog_1_method_19_code 2 = .ok (.if_icmp .lt 14, 3) := by decide +kernel
theorem d_X_bestGiving_5 : decode prog_1_method_19_code 5 = .ok (.iload_n 1, 1) := by decide +kernel
theorem d_X_bestGiving_6 : decode prog_1_method_19_code 6 = .ok (.aload_n 0, 1) := by decide +kernel
theorem d_X_bestGiving_7 : decode prog_1_method_19_code 7 = .ok (.getfield 19, 3) := by decide +kernel
theorem d_X_bestGiving_10 : decode prog_1_method_19_code 10 = .ok (.getfield 203, 3) := by decide +kernel
theorem d_X_bestGiving_13 : decode prog_1_method_19_code 13 = .ok (.if_icmp .lt 6, 3) := by decide +kernel
theorem d_X_bestGiving_16 : decode prog_1_method_19_code 16 = .ok (.ldc 177, 2) := by decide +kernel
theorem d_X_bestGiving_18 : decode prog_1_method_19_code 18 = .ok (.ireturn, 1) := by decide +kernel
theorem d_X_bestGiving_19 : decode prog_1_method_19_code 19 = .ok (.aload_n 0, 1) := by decide +kernel
theorem d_X_bestGiving_20 : decode prog_1_method_19_code 20 = .ok (.getfield 69, 3) := by decide +kernel
theorem d_X_bestGiving_23 : decode prog_1_method_19_code 23 = .ok (.invokevirtual 222, 3) := by decide +kernel
theorem d_X_bestGiving_26 : decode prog_1_method_19_code 26 = .ok (.iload_n 1, 1) := by decide +kernel
theorem d_X_bestGiving_27 : decode prog_1_method_19_code 27 = .ok (.ifCond .ge 13, 3) := by decide +kernel
theorem d_X_bestGiving_30 : decode prog_1_method_19_code 30 = .ok (.aload_n 0, 1) := by decide +kernel
theorem d_X_bestGiving_31 : decode prog_1_method_19_code 31 = .ok (.getfield 69, 3) := by decide +kernel
theorem d_X_bestGiving_34 : decode prog_1_method_19_code 34 = .ok (.getfield 234, 3) := by decide +kernel
theorem d_X_bestGiving_37 : decode prog_1_method_19_code 37 = .ok (.goto 12, 3) := by decide +kernel
theorem d_X_bestGiving_40 : decode prog_1_method_19_code 40 = .ok (.aload_n 0, 1) := by decide +kernel
theorem d_X_bestGiving_41 : decode prog_1_method_19_code 41 = .ok (.getfield 69, 3) := by decide +kernel
theorem d_X_bestGiving_44 : decode prog_1_method_19_code 44 = .ok (.getfield 237, 3) := by decide +kernel
theorem d_X_bestGiving_47 : decode prog_1_method_19_code 47 = .ok (.iload_n 1, 1) := by decide +kernel
theorem d_X_bestGiving_48 : decode prog_1_method_19_code 48 = .ok (.iaload, 1) := by decide +kernel
theorem d_X_bestGiving_49 : decode prog_1_method_19_code 49 = .ok (.ireturn, 1) := by decide +kernel
noncomputable def F_X_bestGiving : Sm := sSeq (sIf (cOr (o2 (fun x y => decide (x < y)) (vI 1) (kI (ii (-1)))) (o2 (fun x y => decide (x ≥ y)) (vI 1) (gI 2 1 (gR 0 1 (vR 0))))) (sRet (asV Value.int (kI (ii (-100000))))) (sSkip)) (sSeq (sCall (mV 8 D_Givings_weighAll) [asV Value.ref (gR 0 7 (vR 0))]) (sRet (asV Value.int (iX (o1 (fun x => decide (x < 0)) (vI 1)) (gI 8 2 (gR 0 7 (vR 0))) (aI 0 (gR 8 4 (gR 0 7 (vR 0))) (vI 1))))))
theorem mf_X_bestGiving : Mf y_X_bestGiving prog_1_method_19_code 2 (some .int) 1 := ⟨tw_1125, tw_122, by decide +kernel⟩
noncomputable def D_X_bestGiving : Dn := runS [1, 1] F_X_bestGiving
theorem ok_X_bestGiving : MOK y_X_bestGiving prog_1_method_19_code 2 (some .int) 12 0 0 D_X_bestGiving := MOK.of (by decide) (by decide) (show SO Y_X_bestGiving [(0, 1), (1, 1)] [(0, 1), (1, 1)] 0 50 (([], 0), ([], 0)) F_X_bestGiving from
  (s_seq (sl1 := [(0, 1), (1, 1)]) (p1 := 19) (s_if (pt := 16) (pf := 19) (c_or (p1 := 5) (c_icmp_ltT (p1 := 1) (p2 := 2) (tg := 16) (e_iload_n (k0 := 1) d_X_bestGiving_0 rfl rfl) (e_iconst d_X_bestGiving_1 (by decide)) d_X_bestGiving_2 rfl) (c_icmp_ltF (p1 := 6) (p2 := 13) (tg := 19) (e_iload_n (k0 := 1) d_X_bestGiving_5 rfl rfl) (e_gI (k0 := 1) (p1 := 10) cf_2 (e_gR (k0 := 1) (p1 := 7) cf_0 (e_aload_n (k0 := 0) d_X_bestGiving_6 rfl rfl) (by decide) tw_566 d_X_bestGiving_7) (by decide) tw_213 d_X_bestGiving_10) d_X_bestGiving_13 rfl)) (s_ret (p1 := 18) (e_ldc d_X_bestGiving_16 tw_966) rfl d_X_bestGiving_18) s_skip) (s_seq (sl1 := [(0, 1), (1, 1)]) (p1 := 26) (s_call (p1 := 23) (a_cons (ι := Value.ref) (k0 := 1) (p1 := 23) (fun _ => rfl) (e_gR (k0 := 7) (p1 := 20) cf_0 (e_aload_n (k0 := 0) d_X_bestGiving_19 rfl rfl) (by decide) tw_572 d_X_bestGiving_20) a_nil) (k_virt ok_Givings_weighAll mf_Givings_weighAll ⟨tw_1081, tw_1082⟩ rfl tw_1080 d_X_bestGiving_23 (by decide) (by decide) (by decide))) (s_ret (p1 := 49) (e_ite (pt := 30) (p1 := 37) (pf := 40) (c_if_geF (p1 := 27) (tg := 40) (e_iload_n (k0 := 1) d_X_bestGiving_26 rfl rfl) d_X_bestGiving_27 rfl) (e_gI (k0 := 2) (p1 := 34) cf_8 (e_gR (k0 := 7) (p1 := 31) cf_0 (e_aload_n (k0 := 0) d_X_bestGiving_30 rfl rfl) (by decide) tw_572 d_X_bestGiving_31) (by decide) tw_443 d_X_bestGiving_34) d_X_bestGiving_37 rfl (e_iald (p1 := 47) (p2 := 48) (e_gR (k0 := 4) (p1 := 44) cf_8 (e_gR (k0 := 7) (p1 := 41) cf_0 (e_aload_n (k0 := 0) d_X_bestGiving_40 rfl rfl) (by decide) tw_572 d_X_bestGiving_41) (by decide) tw_447 d_X_bestGiving_44) (e_iload_n (k0 := 1) d_X_bestGiving_47 rfl rfl) d_X_bestGiving_48)) rfl d_X_bestGiving_49))))
/-! BlinkerCross.settles()I -/
abbrev y_X_settles : MethodName := ⟨"BlinkerCross", "settles", "()I"⟩
abbrev Y_X_settles : Yt := (prog_1_method_20_code, 1, "BlinkerCross", 6, (some .int), "settles")
theorem d_X_settles_0 : decode prog_1_method_20_code 0 = .ok (.aload_n 0, 1) := by decide +kernel
theorem d_X_settles_1 : decode prog_1_method_20_code 1 = .ok (.getfield 69, 3) := by decide +kernel
theorem d_X_settles_4 : decode prog_1_method_20_code 4 = .ok (.invokevirtual 240, 3) := by decide +kernel
theorem d_X_settles_7 : decode prog_1_method_20_code 7 = .ok (.ireturn, 1) := by decide +kernel
noncomputable def F_X_settles : Sm := sRet (asV Value.int (cI (mV 8 D_Givings_roundsToRest) [asV Value.ref (gR 0 7 (vR 0))]))
theorem mf_X_settles : Mf y_X_settles prog_1_method_20_code 1 (some .int) 0 := ⟨tw_1129, tw_122, by decide +kernel⟩
noncomputable def D_X_settles : Dn := runS [1] F_X_settles
theorem ok_X_settles : MOK y_X_settles prog_1_method_20_code 1 (some .int) 6 0 0 D_X_settles := MOK.of (by decide) (by decide) (show SO Y_X_settles [(0, 1)] [(0, 1)] 0 8 (([], 0), ([], 0)) F_X_settles from
  (s_ret (p1 := 7) (e_cI (p1 := 4) (a_cons (ι := Value.ref) (k0 := 1) (p1 := 4) (fun _ => rfl) (e_gR (k0 := 7) (p1 := 1) cf_0 (e_aload_n (k0 := 0) d_X_settles_0 rfl rfl) (by decide) tw_572 d_X_settles_1) a_nil) (k_virt ok_Givings_roundsToRest mf_Givings_roundsToRest ⟨tw_1131, tw_1132⟩ rfl tw_1130 d_X_settles_4 (by decide) (by decide) (by decide))) rfl d_X_settles_7))
/-! BlinkerCross.oneEach(I)I -/
abbrev y_X_oneEach : MethodName := ⟨"BlinkerCross", "oneEach", "(I)I"⟩
abbrev Y_X_oneEach : Yt := (prog_1_method_21_code, 2, "BlinkerCross", 4, (some .int), "oneEach")
theorem d_X_oneEach_0 : decode prog_1_method_21_code 0 = .ok (.iload_n 1, 1) := by decide +kernel
theorem d_X_oneEach_1 : decode prog_1_method_21_code 1 = .ok (.iconst (-1), 1) := by decide +kernel
theorem d_X_oneEach_2 : decode prog_1_method_21_code 2 = .ok (.if_icmp .lt 14, 3) := by decide +kernel
theorem d_X_oneEach_5 : decode prog_1_method_21_code 5 = .ok (.iload_n 1, 1) := by decide +kernel
theorem d_X_oneEach_6 : decode prog_1_method_21_code 6 = .ok (.aload_n 0, 1) := by decide +kernel
theorem d_X_oneEach_7 : decode prog_1_method_21_code 7 = .ok (.getfield 19, 3) := by decide +kernel
theorem d_X_oneEach_10 : decode prog_1_method_21_code 10 = .ok (.getfield 203, 3) := by decide +kernel
theorem d_X_oneEach_13 : decode prog_1_method_21_code 13 = .ok (.if_icmp .lt 5, 3) := by decide +kernel
theorem d_X_oneEach_16 : decode prog_1_method_21_code 16 = .ok (.iconst (-1), 1) := by decide +kernel
theorem d_X_oneEach_17 : decode prog_1_method_21_code 17 = .ok (.ireturn, 1) := by decide +kernel
theorem d_X_oneEach_18 : decode prog_1_method_21_code 18 = .ok (.aload_n 0, 1) := by decide +kernel
theorem d_X_oneEach_19 : decode prog_1_method_21_code 19 = .ok (.getfield 78, 3) := by decide +kernel
theorem d_X_oneEach_22 : decode prog_1_method_21_code 22 = .ok (.invokevirtual 243, 3) := by decide +kernel
theorem d_X_oneEach_25 : decode prog_1_method_21_code 25 = .ok (.iload_n 1, 1) := by decide +kernel
theorem d_X_oneEach_26 : decode prog_1_method_21_code 26 = .ok (.ifCond .ge 13, 3) := by decide +kernel
theorem d_X_oneEach_29 : decode prog_1_method_21_code 29 = .ok (.aload_n 0, 1) := by decide +kernel
theorem d_X_oneEach_30 : decode prog_1_method_21_code 30 = .ok (.getfield 78, 3) := by decide +kernel
theorem d_X_oneEach_33 : decode prog_1_method_21_code 33 = .ok (.invokevirtual 245, 3) := by decide +kernel
theorem d_X_oneEach_36 : decode prog_1_method_21_code 36 = .ok (.goto 12, 3) := by decide +kernel
theorem d_X_oneEach_39 : decode prog_1_method_21_code 39 = .ok (.aload_n 0, 1) := by decide +kernel
theorem d_X_oneEach_40 : decode prog_1_method_21_code 40 = .ok (.getfield 78, 3) := by decide +kernel
theorem d_X_oneEach_43 : decode prog_1_method_21_code 43 = .ok (.getfield 248, 3) := by decide +kernel
theorem d_X_oneEach_46 : decode prog_1_method_21_code 46 = .ok (.iload_n 1, 1) := by decide +kernel
theorem d_X_oneEach_47 : decode prog_1_method_21_code 47 = .ok (.iaload, 1) := by decide +kernel
theorem d_X_oneEach_48 : decode prog_1_method_21_code 48 = .ok (.ireturn, 1) := by decide +kernel
noncomputable def F_X_oneEach : Sm := sSeq (sIf (cOr (o2 (fun x y => decide (x < y)) (vI 1) (kI (ii (-1)))) (o2 (fun x y => decide (x ≥ y)) (vI 1) (gI 2 1 (gR 0 1 (vR 0))))) (sRet (asV Value.int (kI (ii (-1))))) (sSkip)) (sSeq (sCall (mV 9 D_Sharing_make) [asV Value.ref (gR 0 8 (vR 0))]) (sRet (asV Value.int (iX (o1 (fun x => decide (x < 0)) (vI 1)) (cI (mV 9 D_Sharing_total) [asV Value.ref (gR 0 8 (vR 0))]) (aI 0 (gR 9 0 (gR 0 8 (vR 0))) (vI 1))))))
theorem mf_X_oneEach : Mf y_X_oneEach prog_1_method_21_code 2 (some .int) 1 := ⟨tw_1148, tw_122, by decide +kernel⟩
noncomputable def D_X_oneEach : Dn := runS [1, 1] F_X_oneEach
theorem ok_X_oneEach : MOK y_X_oneEach prog_1_method_21_code 2 (some .int) 4 0 0 D_X_oneEach := MOK.of (by decide) (by decide) (show SO Y_X_oneEach [(0, 1), (1, 1)] [(0, 1), (1, 1)] 0 49 (([], 0), ([], 0)) F_X_oneEach from
  (s_seq (sl1 := [(0, 1), (1, 1)]) (p1 := 18) (s_if (pt := 16) (pf := 18) (c_or (p1 := 5) (c_icmp_ltT (p1 := 1) (p2 := 2) (tg := 16) (e_iload_n (k0 := 1) d_X_oneEach_0 rfl rfl) (e_iconst d_X_oneEach_1 (by decide)) d_X_oneEach_2 rfl) (c_icmp_ltF (p1 := 6) (p2 := 13) (tg := 18) (e_iload_n (k0 := 1) d_X_oneEach_5 rfl rfl) (e_gI (k0 := 1) (p1 := 10) cf_2 (e_gR (k0 := 1) (p1 := 7) cf_0 (e_aload_n (k0 := 0) d_X_oneEach_6 rfl rfl) (by decide) tw_566 d_X_oneEach_7) (by decide) tw_213 d_X_oneEach_10) d_X_oneEach_13 rfl)) (s_ret (p1 := 17) (e_iconst d_X_oneEach_16 (by decide)) rfl d_X_oneEach_17) s_skip) (s_seq (sl1 := [(0, 1), (1, 1)]) (p1 := 25) (s_call (p1 := 22) (a_cons (ι := Value.ref) (k0 := 1) (p1 := 22) (fun _ => rfl) (e_gR (k0 := 8) (p1 := 19) cf_0 (e_aload_n (k0 := 0) d_X_oneEach_18 rfl rfl) (by decide) tw_573 d_X_oneEach_19) a_nil) (k_virt ok_Sharing_make mf_Sharing_make ⟨tw_1150, tw_1151⟩ rfl tw_1149 d_X_oneEach_22 (by decide) (by decide) (by decide))) (s_ret (p1 := 48) (e_ite (pt := 29) (p1 := 36) (pf := 39) (c_if_geF (p1 := 26) (tg := 39) (e_iload_n (k0 := 1) d_X_oneEach_25 rfl rfl) d_X_oneEach_26 rfl) (e_cI (p1 := 33) (a_cons (ι := Value.ref) (k0 := 1) (p1 := 33) (fun _ => rfl) (e_gR (k0 := 8) (p1 := 30) cf_0 (e_aload_n (k0 := 0) d_X_oneEach_29 rfl rfl) (by decide) tw_573 d_X_oneEach_30) a_nil) (k_virt ok_Sharing_total mf_Sharing_total ⟨tw_1168, tw_1169⟩ rfl tw_1167 d_X_oneEach_33 (by decide) (by decide) (by decide))) d_X_oneEach_36 rfl (e_iald (p1 := 46) (p2 := 47) (e_gR (k0 := 0) (p1 := 43) cf_9 (e_gR (k0 := 8) (p1 := 40) cf_0 (e_aload_n (k0 := 0) d_X_oneEach_39 rfl rfl) (by decide) tw_573 d_X_oneEach_40) (by decide) tw_498 d_X_oneEach_43) (e_iload_n (k0 := 1) d_X_oneEach_46 rfl rfl) d_X_oneEach_47)) rfl d_X_oneEach_48))))
/-! BlinkerCross.closing()I -/
abbrev y_X_closing : MethodName := ⟨"BlinkerCross", "closing", "()I"⟩
abbrev Y_X_closing : Yt := (prog_1_method_22_code, 1, "BlinkerCross", 6, (some .int), "closing")
theorem d_X_closing_0 : decode prog_1_method_22_code 0 = .ok (.aload_n 0, 1) := by decide +kernel
theorem d_X_closing_1 : decode prog_1_method_22_code 1 = .ok (.getfield 69, 3) := by decide +kernel
theorem d_X_closing_4 : decode prog_1_method_22_code 4 = .ok (.invokevirtual 251, 3) := by decide +kernel
theorem d_X_closing_7 : decode prog_1_method_22_code 7 = .ok (.ireturn, 1) := by decide +kernel
noncomputable def F_X_closing : Sm := sRet (asV Value.int (cI (mV 8 D_Givings_betterClosed) [asV Value.ref (gR 0 7 (vR 0))]))
theorem mf_X_closing : Mf y_X_closing prog_1_method_22_code 1 (some .int) 0 := ⟨tw_1174, tw_122, by decide +kernel⟩
noncomputable def D_X_closing : Dn := runS [1] F_X_closing
theorem ok_X_closing : MOK y_X_closing prog_1_method_22_code 1 (some .int) 6 0 0 D_X_closing := MOK.of (by decide) (by decide) (show SO Y_X_closing [(0, 1)] [(0, 1)] 0 8 (([], 0), ([], 0)) F_X_closing from
  (s_ret (p1 := 7) (e_cI (p1 := 4) (a_cons (ι := Value.ref) (k0 := 1) (p1 := 4) (fun _ => rfl) (e_gR (k0 := 7) (p1 := 1) cf_0 (e_aload_n (k0 := 0) d_X_closing_0 rfl rfl) (by decide) tw_572 d_X_closing_1) a_nil) (k_virt ok_Givings_betterClosed mf_Givings_betterClosed ⟨tw_1176, tw_1177⟩ rfl tw_1175 d_X_closing_4 (by decide) (by decide) (by decide))) rfl d_X_closing_7))
/-! BlinkerCross.searchWorth(II)I -/
abbrev y_X_searchWorth : MethodName := ⟨"BlinkerCross", "searchWorth", "(II)I"⟩
abbrev Y_X_searchWorth : Yt := (prog_1_method_41_code, 7, "BlinkerCross", 1, (some .int), "searchWorth")
theorem d_X_searchWorth_0 : decode prog_1_method_41_code 0 = .ok (.iconst 0, 1) := by decide +kernel
theorem d_X_searchWorth_1 : decode prog_1_method_41_code 1 = .ok (.istore_n 2, 1) := by decide +kernel
theorem d_X_searchWorth_2 : decode prog_1_method_41_code 2 = .ok (.iconst 1, 1) := by decide +kernel
theorem d_X_searchWorth_3 : decode prog_1_method_41_code 3 = .ok (.istore_n 3, 1) := by decide +kernel
theorem d_X_searchWorth_4 : decode prog_1_method_41_code 4 = .ok (.iconst 0, 1) := by decide +kernel
theorem d_X_searchWorth_5 : decode prog_1_method_41_code 5 = .ok (.istore 4, 2) := by decide +kernel
theorem d_X_searchWorth_7 : decode prog_1_method_41_code 7 = .ok (.iload 4, 2) := by decide +kernel
theorem d_X_searchWorth_9 : decode prog_1_method_41_code 9 = .ok (.iload_n 0, 1) := by decide +kernel
theorem d_X_searchWorth_10 : decode prog_1_method_41_code 10 = .ok (.if_icmp .ge 53, 3) := by decide +kernel
theorem d_X_searchWorth_13 : decode prog_1_method_41_code 13 = .ok (.iconst 0, 1) := by decide +kernel
theorem d_X_searchWorth_14 : decode prog_1_method_41_code 14 = .ok (.istore 5, 2) := by decide +kernel
theorem d_X_searchWorth_16 : decode prog_1_method_41_code 16 = .ok (.iconst 0, 1) := by decide +kernel
theorem d_X_searchWorth_17 : decode prog_1_method_41_code 17 = .ok (.istore 6, 2) := by decide +kernel
theorem d_X_searchWorth_19 : decode prog_1_method_41_code 19 = .ok (.iload 6, 2) := by decide +kernel
theorem d_X_searchWorth_21 : decode prog_1_method_41_code 21 = .ok (.bipush 10, 2) := by decide +kernel
theorem d_X_searchWorth_23 : decode prog_1_method_41_code 23 = .ok (.if_icmp .ge 22, 3) := by decide +kernel
theorem d_X_searchWorth_26 : decode prog_1_method_41_code 26 = .ok (.iload 5, 2) := by decide +kernel
theorem d_X_searchWorth_28 : decode prog_1_method_41_code 28 = .ok (.iload 6, 2) := by decide +kernel
theorem d_X_searchWorth_30 : decode prog_1_method_41_code 30 = .ok (.iload_n 3, 1) := by decide +kernel
theorem d_X_searchWorth_31 : decode prog_1_method_41_code 31 = .ok (.imul, 1) := by decide +kernel
theorem d_X_searchWorth_32 : decode prog_1_method_41_code 32 = .ok (.iload_n 2, 1) := by decide +kernel
theorem d_X_searchWorth_33 : decode prog_1_method_41_code 33 = .ok (.invokestatic 317, 3) := by decide +kernel
theorem d_X_searchWorth_36 : decode prog_1_method_41_code 36 = .ok (.iadd, 1) := by decide +kernel
theorem d_X_searchWorth_37 : decode prog_1_method_41_code 37 = .ok (.istore 5, 2) := by decide +kernel
theorem d_X_searchWorth_39 : decode prog_1_method_41_code 39 = .ok (.iinc 6 1, 3) := by decide +kernel
theorem d_X_searchWorth_42 : decode prog_1_method_41_code 42 = .ok (.goto (-23), 3) := by decide +kernel
theorem d_X_searchWorth_45 : decode prog_1_method_41_code 45 = .ok (.iload_n 3, 1) := by decide +kernel
theorem d_X_searchWorth_46 : decode prog_1_method_41_code 46 = .ok (.bipush 10, 2) := by decide +kernel
theorem d_X_searchWorth_48 : decode prog_1_method_41_code 48 = .ok (.imul, 1) := by decide +kernel
theorem d_X_searchWorth_49 : decode prog_1_method_41_code 49 = .ok (.istore_n 3, 1) := by decide +kernel
theorem d_X_searchWorth_50 : decode prog_1_method_41_code 50 = .ok (.iload 5, 2) := by decide +kernel
theorem d_X_searchWorth_52 : decode prog_1_method_41_code 52 = .ok (.iload_n 1, 1) := by decide +kernel
theorem d_X_searchWorth_53 : decode prog_1_method_41_code 53 = .ok (.iload_n 3, 1) := by decide +kernel
theorem d_X_searchWorth_54 : decode prog_1_method_41_code 54 = .ok (.imul, 1) := by decide +kernel
theorem d_X_searchWorth_55 : decode prog_1_method_41_code 55 = .ok (.isub, 1) := by decide +kernel
theorem d_X_searchWorth_56 : decode prog_1_method_41_code 56 = .ok (.istore_n 2, 1) := by decide +kernel
theorem d_X_searchWorth_57 : decode prog_1_method_41_code 57 = .ok (.iinc 4 1, 3) := by decide +kernel
theorem d_X_searchWorth_60 : decode prog_1_method_41_code 60 = .ok (.goto (-53), 3) := by decide +kernel
theorem d_X_searchWorth_63 : decode prog_1_method_41_code 63 = .ok (.iload_n 2, 1) := by decide +kernel
theorem d_X_searchWorth_64 : decode prog_1_method_41_code 64 = .ok (.ireturn, 1) := by decide +kernel
noncomputable def Lc_X_searchWorth_1 : Xp Bool := o2 (fun x y => decide (x < y)) (vI 6) (kI (ii 10))
noncomputable def Lb_X_searchWorth_1 : Sm := sSet 5 (asV Value.int (o2 (fun x y => x + y) (vI 5) (o2 (fun x y => if x < y then y else x) (o2 (fun x y => x * y) (vI 6) (vI 3)) (vI 2))))
noncomputable def Lu_X_searchWorth_1 : Sm := sInc 6 (ii 1)
noncomputable def Lc_X_searchWorth_2 : Xp Bool := o2 (fun x y => decide (x < y)) (vI 4) (vI 0)
noncomputable def Lb_X_searchWorth_2 : Sm := sBlk 5 (sSeq (sDecl (asV Value.int (kI (ii 0)))) (sSeq (sBlk 6 (sSeq (sDecl (asV Value.int (kI (ii 0)))) (sWh (Lc_X_searchWorth_1) (Lb_X_searchWorth_1) Lu_X_searchWorth_1))) (sSeq (sSet 3 (asV Value.int (o2 (fun x y => x * y) (vI 3) (kI (ii 10))))) (sSet 2 (asV Value.int (o2 (fun x y => x - y) (vI 5) (o2 (fun x y => x * y) (vI 1) (vI 3))))))))
noncomputable def Lu_X_searchWorth_2 : Sm := sInc 4 (ii 1)
noncomputable def F_X_searchWorth : Sm := sSeq (sDecl (asV Value.int (kI (ii 0)))) (sSeq (sDecl (asV Value.int (kI (ii 1)))) (sSeq (sBlk 4 (sSeq (sDecl (asV Value.int (kI (ii 0)))) (sWh (Lc_X_searchWorth_2) (Lb_X_searchWorth_2) Lu_X_searchWorth_2))) (sRet (asV Value.int (vI 2)))))
theorem mf_X_searchWorth : Mf y_X_searchWorth prog_1_method_41_code 7 (some .int) 2 := ⟨tw_1191, tw_122, by decide +kernel⟩
noncomputable def D_X_searchWorth : Dn := runS [1, 1] F_X_searchWorth
theorem ok_X_searchWorth : MOK y_X_searchWorth prog_1_method_41_code 7 (some .int) 1 0 0 D_X_searchWorth := MOK.of (by decide) (by decide) (show SO Y_X_searchWorth [(0, 1), (1, 1)] [(0, 1), (1, 1), (2, 1), (3, 1)] 0 65 (([], 0), ([], 0)) F_X_searchWorth from
  (s_seq (sl1 := [(0, 1), (1, 1), (2, 1)]) (p1 := 2) (s_decl (p1 := 1) (e_iconst d_X_searchWorth_0 (by decide)) (t_istore_n d_X_searchWorth_1 rfl (by decide)) rfl) (s_seq (sl1 := [(0, 1), (1, 1), (2, 1), (3, 1)]) (p1 := 4) (s_decl (p1 := 3) (e_iconst d_X_searchWorth_2 (by decide)) (t_istore_n d_X_searchWorth_3 rfl (by decide)) rfl) (s_seq (sl1 := [(0, 1), (1, 1), (2, 1), (3, 1)]) (p1 := 63) (s_blk (sl1 := [(0, 1), (1, 1), (2, 1), (3, 1), (4, 1)]) (s_seq (sl1 := [(0, 1), (1, 1), (2, 1), (3, 1), (4, 1)]) (p1 := 7) (s_decl (p1 := 5) (e_iconst d_X_searchWorth_4 (by decide)) (t_istore d_X_searchWorth_5 (by decide)) rfl) (s_for (pt := 13) (pu := 57) (pf := 63) (pg := 0) (c_icmp_geF (p1 := 9) (p2 := 10) (tg := 63) (e_iload (k0 := 4) d_X_searchWorth_7 rfl) (e_iload_n (k0 := 0) d_X_searchWorth_9 rfl rfl) d_X_searchWorth_10 rfl) (s_blk (sl1 := [(0, 1), (1, 1), (2, 1), (3, 1), (4, 1), (5, 1)]) (s_seq (sl1 := [(0, 1), (1, 1), (2, 1), (3, 1), (4, 1), (5, 1)]) (p1 := 16) (s_decl (p1 := 14) (e_iconst d_X_searchWorth_13 (by decide)) (t_istore d_X_searchWorth_14 (by decide)) rfl) (s_seq (sl1 := [(0, 1), (1, 1), (2, 1), (3, 1), (4, 1), (5, 1)]) (p1 := 45) (s_blk (sl1 := [(0, 1), (1, 1), (2, 1), (3, 1), (4, 1), (5, 1), (6, 1)]) (s_seq (sl1 := [(0, 1), (1, 1), (2, 1), (3, 1), (4, 1), (5, 1), (6, 1)]) (p1 := 19) (s_decl (p1 := 17) (e_iconst d_X_searchWorth_16 (by decide)) (t_istore d_X_searchWorth_17 (by decide)) rfl) (s_for (pt := 26) (pu := 39) (pf := 45) (pg := 0) (c_icmp_geF (p1 := 21) (p2 := 23) (tg := 45) (e_iload (k0 := 6) d_X_searchWorth_19 rfl) (e_bipush d_X_searchWorth_21 (by decide)) d_X_searchWorth_23 rfl) (s_set (k0 := 5) (p1 := 37) (e_iadd (p1 := 28) (p2 := 36) (e_iload (k0 := 5) d_X_searchWorth_26 rfl) (e_max (p1 := 32) (p2 := 33) (e_imul (p1 := 30) (p2 := 31) (e_iload (k0 := 6) d_X_searchWorth_28 rfl) (e_iload_n (k0 := 3) d_X_searchWorth_30 rfl rfl) d_X_searchWorth_31) (e_iload_n (k0 := 2) d_X_searchWorth_32 rfl rfl) ⟨tw_947, tw_720, tw_139, tw_721⟩ d_X_searchWorth_33 (by decide) (by decide)) d_X_searchWorth_36) (t_istore d_X_searchWorth_37 (by decide)) rfl rfl) (s_goto (p1 := 42) (s_inc (k0 := 6) d_X_searchWorth_39 rfl rfl (Nat.le_of_ble_eq_true rfl) rfl) d_X_searchWorth_42 rfl))) rfl) (s_seq (sl1 := [(0, 1), (1, 1), (2, 1), (3, 1), (4, 1), (5, 1)]) (p1 := 50) (s_set (k0 := 3) (p1 := 49) (e_imul (p1 := 46) (p2 := 48) (e_iload_n (k0 := 3) d_X_searchWorth_45 rfl rfl) (e_bipush d_X_searchWorth_46 (by decide)) d_X_searchWorth_48) (t_istore_n d_X_searchWorth_49 rfl (by decide)) rfl rfl) (s_set (k0 := 2) (p1 := 56) (e_isub (p1 := 52) (p2 := 55) (e_iload (k0 := 5) d_X_searchWorth_50 rfl) (e_imul (p1 := 53) (p2 := 54) (e_iload_n (k0 := 1) d_X_searchWorth_52 rfl rfl) (e_iload_n (k0 := 3) d_X_searchWorth_53 rfl rfl) d_X_searchWorth_54) d_X_searchWorth_55) (t_istore_n d_X_searchWorth_56 rfl (by decide)) rfl rfl)))) rfl) (s_goto (p1 := 60) (s_inc (k0 := 4) d_X_searchWorth_57 rfl rfl (Nat.le_of_ble_eq_true rfl) rfl) d_X_searchWorth_60 rfl))) rfl) (s_ret (p1 := 64) (e_iload_n (k0 := 2) d_X_searchWorth_63 rfl rfl) rfl d_X_searchWorth_64)))))
/-! BlinkerCross.search(II)I -/
abbrev y_X_search : MethodName := ⟨"BlinkerCross", "search", "(II)I"⟩
abbrev Y_X_search : Yt := (prog_1_method_23_code, 3, "BlinkerCross", 2, (some .int), "search")
theorem d_X_search_0 : decode prog_1_method_23_code 0 = .ok (.iload_n 1, 1) := by decide +kernel
theorem d_X_search_1 : decode prog_1_method_23_code 1 = .ok (.iconst 1, 1) := by decide +kernel
theorem d_X_search_2 : decode prog_1_method_23_code 2 = .ok (.if_icmp .lt 19, 3) := by decide +kernel
theorem d_X_search_5 : decode prog_1_method_23_code 5 = .ok (.iload_n 1, 1) := by decide +kernel
theorem d_X_search_6 : decode prog_1_method_23_code 6 = .ok (.bipush 6, 2) := by decide +kernel
theorem d_X_search_8 : decode prog_1_method_23_code 8 = .ok (.if_icmp .gt 13, 3) := by decide +kernel
theorem d_X_search_11 : decode prog_1_method_23_code 11 = .ok (.iload_n 2, 1) := by decide +kernel
theorem d_X_search_12 : decode prog_1_method_23_code 12 = .ok (.ifCond .lt 9, 3) := by decide +kernel
theorem d_X_search_15 : decode prog_1_method_23_code 15 = .ok (.iload_n 2, 1) := by decide +kernel
theorem d_X_search_16 : decode prog_1_method_23_code 16 = .ok (.bipush 9, 2) := by decide +kernel
theorem d_X_search_18 : decode prog_1_method_23_code 18 = .ok (.if_icmp .le 6, 3) := by decide +kernel
theorem d_X_search_21 : decode prog_1_method_23_code 21 = .ok (.ldc 254, 2) := by decide +kernel
theorem d_X_search_23 : decode prog_1_method_23_code 23 = .ok (.ireturn, 1) := by decide +kernel
theorem d_X_search_24 : decode prog_1_method_23_code 24 = .ok (.iload_n 1, 1) := by decide +kernel
theorem d_X_search_25 : decode prog_1_method_23_code 25 = .ok (.iload_n 2, 1) := by decide +kernel
theorem d_X_search_26 : decode prog_1_method_23_code 26 = .ok (.invokestatic 255, 3) := by decide +kernel
theorem d_X_search_29 : decode prog_1_method_23_code 29 = .ok (.ireturn, 1) := by decide +kernel
noncomputable def F_X_search : Sm := sSeq (sIf (cOr (cOr (cOr (o2 (fun x y => decide (x < y)) (vI 1) (kI (ii 1))) (o2 (fun x y => decide (x > y)) (vI 1) (kI (ii 6)))) (o1 (fun x => decide (x < 0)) (vI 2))) (o2 (fun x y => decide (x > y)) (vI 2) (kI (ii 9)))) (sRet (asV Value.int (kI (ii (-100000000))))) (sSkip)) (sRet (asV Value.int (cI (D_X_searchWorth) [asV Value.int (vI 1), asV Value.int (vI 2)])))
theorem mf_X_search : Mf y_X_search prog_1_method_23_code 3 (some .int) 2 := ⟨tw_1187, tw_122, by decide +kernel⟩
noncomputable def D_X_search : Dn := runS [1, 1, 1] F_X_search
theorem ok_X_search : MOK y_X_search prog_1_method_23_code 3 (some .int) 2 0 0 D_X_search := MOK.of (by decide) (by decide) (show SO Y_X_search [(0, 1), (1, 1), (2, 1)] [(0, 1), (1, 1), (2, 1)] 0 30 (([], 0), ([], 0)) F_X_search from
  (s_seq (sl1 := [(0, 1), (1, 1), (2, 1)]) (p1 := 24) (s_if (pt := 21) (pf := 24) (c_or (p1 := 15) (c_or (p1 := 11) (c_or (p1 := 5) (c_icmp_ltT (p1 := 1) (p2 := 2) (tg := 21) (e_iload_n (k0 := 1) d_X_search_0 rfl rfl) (e_iconst d_X_search_1 (by decide)) d_X_search_2 rfl) (c_icmp_gtT (p1 := 6) (p2 := 8) (tg := 21) (e_iload_n (k0 := 1) d_X_search_5 rfl rfl) (e_bipush d_X_search_6 (by decide)) d_X_search_8 rfl)) (c_if_ltT (p1 := 12) (tg := 21) (e_iload_n (k0 := 2) d_X_search_11 rfl rfl) d_X_search_12 rfl)) (c_icmp_leF (p1 := 16) (p2 := 18) (tg := 24) (e_iload_n (k0 := 2) d_X_search_15 rfl rfl) (e_bipush d_X_search_16 (by decide)) d_X_search_18 rfl)) (s_ret (p1 := 23) (e_ldc d_X_search_21 tw_1188) rfl d_X_search_23) s_skip) (s_ret (p1 := 29) (e_cI (p1 := 26) (a_cons (ι := Value.int) (k0 := 1) (p1 := 25) (fun _ => rfl) (e_iload_n (k0 := 1) d_X_search_24 rfl rfl) (a_cons (ι := Value.int) (k0 := 1) (p1 := 26) (fun _ => rfl) (e_iload_n (k0 := 2) d_X_search_25 rfl rfl) a_nil)) (k_stat ok_X_searchWorth mf_X_searchWorth tw_1190 tw_1189 d_X_search_26 (by decide) (by decide) (by decide))) rfl d_X_search_29)))
/-! BlinkerCross.bar(II)I -/
abbrev y_X_bar : MethodName := ⟨"BlinkerCross", "bar", "(II)I"⟩
abbrev Y_X_bar : Yt := (prog_1_method_24_code, 6, "BlinkerCross", 2, (some .int), "bar")
theorem d_X_bar_0 : decode prog_1_method_24_code 0 = .ok (.iload_n 1, 1) := by decide +kernel
theorem d_X_bar_1 : decode prog_1_method_24_code 1 = .ok (.iconst 1, 1) := by decide +kernel
theorem d_X_bar_2 : decode prog_1_method_24_code 2 = .ok (.if_icmp .lt 19, 3) := by decide +kernel
theorem d_X_bar_5 : decode prog_1_method_24_code 5 = .ok (.iload_n 1, 1) := by decide +kernel
theorem d_X_bar_6 : decode prog_1_method_24_code 6 = .ok (.bipush 6, 2) := by decide +kernel
theorem d_X_bar_8 : decode prog_1_method_24_code 8 = .ok (.if_icmp .gt 13, 3) := by decide +kernel
theorem d_X_bar_11 : decode prog_1_method_24_code 11 = .ok (.iload_n 2, 1) := by decide +kernel
theorem d_X_bar_12 : decode prog_1_method_24_code 12 = .ok (.ifCond .lt 9, 3) := by decide +kernel
theorem d_X_bar_15 : decode prog_1_method_24_code 15 = .ok (.iload_n 2, 1) := by decide +kernel
theorem d_X_bar_16 : decode prog_1_method_24_code 16 = .ok (.bipush 9, 2) := by decide +kernel
theorem d_X_bar_18 : decode prog_1_method_24_code 18 = .ok (.if_icmp .le 5, 3) := by decide +kernel
theorem d_X_bar_21 : decode prog_1_method_24_code 21 = .ok (.iconst (-1), 1) := by decide +kernel
theorem d_X_bar_22 : decode prog_1_method_24_code 22 = .ok (.ireturn, 1) := by decide +kernel
theorem d_X_bar_23 : decode prog_1_method_24_code 23 = .ok (.iload_n 1, 1) := by decide +kernel
theorem d_X_bar_24 : decode prog_1_method_24_code 24 = .ok (.iconst 1, 1) := by decide +kernel
theorem d_X_bar_25 : decode prog_1_method_24_code 25 = .ok (.isub, 1) := by decide +kernel
theorem d_X_bar_26 : decode prog_1_method_24_code 26 = .ok (.iload_n 2, 1) := by decide +kernel
theorem d_X_bar_27 : decode prog_1_method_24_code 27 = .ok (.invokestatic 255, 3) := by decide +kernel
theorem d_X_bar_30 : decode prog_1_method_24_code 30 = .ok (.istore_n 3, 1) := by decide +kernel
theorem d_X_bar_31 : decode prog_1_method_24_code 31 = .ok (.iconst 1, 1) := by decide +kernel
theorem d_X_bar_32 : decode prog_1_method_24_code 32 = .ok (.istore 4, 2) := by decide +kernel
theorem d_X_bar_34 : decode prog_1_method_24_code 34 = .ok (.iconst 1, 1) := by decide +kernel
theorem d_X_bar_35 : decode prog_1_method_24_code 35 = .ok (.istore 5, 2) := by decide +kernel
theorem d_X_bar_37 : decode prog_1_method_24_code 37 = .ok (.iload 5, 2) := by decide +kernel
theorem d_X_bar_39 : decode prog_1_method_24_code 39 = .ok (.iload_n 1, 1) := by decide +kernel
theorem d_X_bar_40 : decode prog_1_method_24_code 40 = .ok (.if_icmp .ge 16, 3) := by decide +kernel
theorem d_X_bar_43 : decode prog_1_method_24_code 43 = .ok (.iload 4, 2) := by decide +kernel
theorem d_X_bar_45 : decode prog_1_method_24_code 45 = .ok (.bipush 10, 2) := by decide +kernel
theorem d_X_bar_47 : decode prog_1_method_24_code 47 = .ok (.imul, 1) := by decide +kernel
theorem d_X_bar_48 : decode prog_1_method_24_code 48 = .ok (.istore 4, 2) := by decide +kernel
theorem d_X_bar_50 : decode prog_1_method_24_code 50 = .ok (.iinc 5 1, 3) := by decide +kernel
theorem d_X_bar_53 : decode prog_1_method_24_code 53 = .ok (.goto (-16), 3) := by decide +kernel
theorem d_X_bar_56 : decode prog_1_method_24_code 56 = .ok (.iconst 0, 1) := by decide +kernel
theorem d_X_bar_57 : decode prog_1_method_24_code 57 = .ok (.istore 5, 2) := by decide +kernel
theorem d_X_bar_59 : decode prog_1_method_24_code 59 = .ok (.iload 5, 2) := by decide +kernel
theorem d_X_bar_61 : decode prog_1_method_24_code 61 = .ok (.bipush 10, 2) := by decide +kernel
theorem d_X_bar_63 : decode prog_1_method_24_code 63 = .ok (.if_icmp .ge 18, 3) := by decide +kernel
theorem d_X_bar_66 : decode prog_1_method_24_code 66 = .ok (.iload 5, 2) := by decide +kernel
theorem d_X_bar_68 : decode prog_1_method_24_code 68 = .ok (.iload 4, 2) := by decide +kernel
theorem d_X_bar_70 : decode prog_1_method_24_code 70 = .ok (.imul, 1) := by decide +kernel
theorem d_X_bar_71 : decode prog_1_method_24_code 71 = .ok (.iload_n 3, 1) := by decide +kernel
theorem d_X_bar_72 : decode prog_1_method_24_code 72 = .ok (.if_icmp .ge 9, 3) := by decide +kernel
theorem d_X_bar_75 : decode prog_1_method_24_code 75 = .ok (.iinc 5 1, 3) := by decide +kernel
theorem d_X_bar_78 : decode prog_1_method_24_code 78 = .ok (.goto (-19), 3) := by decide +kernel
theorem d_X_bar_81 : decode prog_1_method_24_code 81 = .ok (.iload 5, 2) := by decide +kernel
theorem d_X_bar_83 : decode prog_1_method_24_code 83 = .ok (.ireturn, 1) := by decide +kernel
noncomputable def Lc_X_bar_1 : Xp Bool := o2 (fun x y => decide (x < y)) (vI 5) (vI 1)
noncomputable def Lb_X_bar_1 : Sm := sSet 4 (asV Value.int (o2 (fun x y => x * y) (vI 4) (kI (ii 10))))
noncomputable def Lu_X_bar_1 : Sm := sInc 5 (ii 1)
noncomputable def Lc_X_bar_2 : Xp Bool := cAnd (o2 (fun x y => decide (x < y)) (vI 5) (kI (ii 10))) (o2 (fun x y => decide (x < y)) (o2 (fun x y => x * y) (vI 5) (vI 4)) (vI 3))
noncomputable def Lb_X_bar_2 : Sm := sInc 5 (ii 1)
noncomputable def Lu_X_bar_2 : Sm := sSkip
noncomputable def F_X_bar : Sm := sSeq (sIf (cOr (cOr (cOr (o2 (fun x y => decide (x < y)) (vI 1) (kI (ii 1))) (o2 (fun x y => decide (x > y)) (vI 1) (kI (ii 6)))) (o1 (fun x => decide (x < 0)) (vI 2))) (o2 (fun x y => decide (x > y)) (vI 2) (kI (ii 9)))) (sRet (asV Value.int (kI (ii (-1))))) (sSkip)) (sSeq (sDecl (asV Value.int (cI (D_X_searchWorth) [asV Value.int (o2 (fun x y => x - y) (vI 1) (kI (ii 1))), asV Value.int (vI 2)]))) (sSeq (sDecl (asV Value.int (kI (ii 1)))) (sSeq (sBlk 5 (sSeq (sDecl (asV Value.int (kI (ii 1)))) (sWh (Lc_X_bar_1) (Lb_X_bar_1) Lu_X_bar_1))) (sSeq (sDecl (asV Value.int (kI (ii 0)))) (sSeq (sWh (Lc_X_bar_2) (Lb_X_bar_2) Lu_X_bar_2) (sRet (asV Value.int (vI 5))))))))
theorem mf_X_bar : Mf y_X_bar prog_1_method_24_code 6 (some .int) 2 := ⟨tw_1195, tw_122, by decide +kernel⟩
noncomputable def D_X_bar : Dn := runS [1, 1, 1] F_X_bar
theorem ok_X_bar : MOK y_X_bar prog_1_method_24_code 6 (some .int) 2 0 0 D_X_bar := MOK.of (by decide) (by decide) (show SO Y_X_bar [(0, 1), (1, 1), (2, 1)] [(0, 1), (1, 1), (2, 1), (3, 1), (4, 1), (5, 1)] 0 84 (([], 0), ([], 0)) F_X_bar from
  (s_seq (sl1 := [(0, 1), (1, 1), (2, 1)]) (p1 := 23) (s_if (pt := 21) (pf := 23) (c_or (p1 := 15) (c_or (p1 := 11) (c_or (p1 := 5) (c_icmp_ltT (p1 := 1) (p2 := 2) (tg := 21) (e_iload_n (k0 := 1) d_X_bar_0 rfl rfl) (e_iconst d_X_bar_1 (by decide)) d_X_bar_2 rfl) (c_icmp_gtT (p1 := 6) (p2 := 8) (tg := 21) (e_iload_n (k0 := 1) d_X_bar_5 rfl rfl) (e_bipush d_X_bar_6 (by decide)) d_X_bar_8 rfl)) (c_if_ltT (p1 := 12) (tg := 21) (e_iload_n (k0 := 2) d_X_bar_11 rfl rfl) d_X_bar_12 rfl)) (c_icmp_leF (p1 := 16) (p2 := 18) (tg := 23) (e_iload_n (k0 := 2) d_X_bar_15 rfl rfl) (e_bipush d_X_bar_16 (by decide)) d_X_bar_18 rfl)) (s_ret (p1 := 22) (e_iconst d_X_bar_21 (by decide)) rfl d_X_bar_22) s_skip) (s_seq (sl1 := [(0, 1), (1, 1), (2, 1), (3, 1)]) (p1 := 31) (s_decl (p1 := 30) (e_cI (p1 := 27) (a_cons (ι := Value.int) (k0 := 1) (p1 := 26) (fun _ => rfl) (e_isub (p1 := 24) (p2 := 25) (e_iload_n (k0 := 1) d_X_bar_23 rfl rfl) (e_iconst d_X_bar_24 (by decide)) d_X_bar_25) (a_cons (ι := Value.int) (k0 := 1) (p1 := 27) (fun _ => rfl) (e_iload_n (k0 := 2) d_X_bar_26 rfl rfl) a_nil)) (k_stat ok_X_searchWorth mf_X_searchWorth tw_1190 tw_1189 d_X_bar_27 (by decide) (by decide) (by decide))) (t_istore_n d_X_bar_30 rfl (by decide)) rfl) (s_seq (sl1 := [(0, 1), (1, 1), (2, 1), (3, 1), (4, 1)]) (p1 := 34) (s_decl (p1 := 32) (e_iconst d_X_bar_31 (by decide)) (t_istore d_X_bar_32 (by decide)) rfl) (s_seq (sl1 := [(0, 1), (1, 1), (2, 1), (3, 1), (4, 1)]) (p1 := 56) (s_blk (sl1 := [(0, 1), (1, 1), (2, 1), (3, 1), (4, 1), (5, 1)]) (s_seq (sl1 := [(0, 1), (1, 1), (2, 1), (3, 1), (4, 1), (5, 1)]) (p1 := 37) (s_decl (p1 := 35) (e_iconst d_X_bar_34 (by decide)) (t_istore d_X_bar_35 (by decide)) rfl) (s_for (pt := 43) (pu := 50) (pf := 56) (pg := 0) (c_icmp_geF (p1 := 39) (p2 := 40) (tg := 56) (e_iload (k0 := 5) d_X_bar_37 rfl) (e_iload_n (k0 := 1) d_X_bar_39 rfl rfl) d_X_bar_40 rfl) (s_set (k0 := 4) (p1 := 48) (e_imul (p1 := 45) (p2 := 47) (e_iload (k0 := 4) d_X_bar_43 rfl) (e_bipush d_X_bar_45 (by decide)) d_X_bar_47) (t_istore d_X_bar_48 (by decide)) rfl rfl) (s_goto (p1 := 53) (s_inc (k0 := 5) d_X_bar_50 rfl rfl (Nat.le_of_ble_eq_true rfl) rfl) d_X_bar_53 rfl))) rfl) (s_seq (sl1 := [(0, 1), (1, 1), (2, 1), (3, 1), (4, 1), (5, 1)]) (p1 := 59) (s_decl (p1 := 57) (e_iconst d_X_bar_56 (by decide)) (t_istore d_X_bar_57 (by decide)) rfl) (s_seq (sl1 := [(0, 1), (1, 1), (2, 1), (3, 1), (4, 1), (5, 1)]) (p1 := 81) (s_for (pt := 75) (pu := 59) (pf := 81) (pg := 0) (c_and (p1 := 66) (c_icmp_geF (p1 := 61) (p2 := 63) (tg := 81) (e_iload (k0 := 5) d_X_bar_59 rfl) (e_bipush d_X_bar_61 (by decide)) d_X_bar_63 rfl) (c_icmp_geF (p1 := 71) (p2 := 72) (tg := 81) (e_imul (p1 := 68) (p2 := 70) (e_iload (k0 := 5) d_X_bar_66 rfl) (e_iload (k0 := 4) d_X_bar_68 rfl) d_X_bar_70) (e_iload_n (k0 := 3) d_X_bar_71 rfl rfl) d_X_bar_72 rfl)) (s_goto (p1 := 78) (s_inc (k0 := 5) d_X_bar_75 rfl rfl (Nat.le_of_ble_eq_true rfl) rfl) d_X_bar_78 rfl) s_skip) (s_ret (p1 := 83) (e_iload (k0 := 5) d_X_bar_81 rfl) rfl d_X_bar_83))))))))
/-! BlinkerCross.enough(II)I -/
abbrev y_X_enough : MethodName := ⟨"BlinkerCross", "enough", "(II)I"⟩
abbrev Y_X_enough : Yt := (prog_1_method_25_code, 4, "BlinkerCross", 3, (some .int), "enough")
theorem d_X_enough_0 : decode prog_1_method_25_code 0 = .ok (.aload_n 0, 1) := by decide +kernel
theorem d_X_enough_1 : decode prog_1_method_25_code 1 = .ok (.iload_n 1, 1) := by decide +kernel
theorem d_X_enough_2 : decode prog_1_method_25_code 2 = .ok (.invokevirtual 144, 3) := by decide +kernel
theorem d_X_enough_5 : decode prog_1_method_25_code 5 = .ok (.ifCond .eq 11, 3) := by decide +kernel
theorem d_X_enough_8 : decode prog_1_method_25_code 8 = .ok (.aload_n 0, 1) := by decide +kernel
theorem d_X_enough_9 : decode prog_1_method_25_code 9 = .ok (.iload_n 2, 1) := by decide +kernel
theorem d_X_enough_10 : decode prog_1_method_25_code 10 = .ok (.invokevirtual 126, 3) := by decide +kernel
theorem d_X_enough_13 : decode prog_1_method_25_code 13 = .ok (.ifCond .ne 5, 3) := by decide +kernel
theorem d_X_enough_16 : decode prog_1_method_25_code 16 = .ok (.iconst (-1), 1) := by decide +kernel
theorem d_X_enough_17 : decode prog_1_method_25_code 17 = .ok (.ireturn, 1) := by decide +kernel
theorem d_X_enough_18 : decode prog_1_method_25_code 18 = .ok (.aload_n 0, 1) := by decide +kernel
theorem d_X_enough_19 : decode prog_1_method_25_code 19 = .ok (.getfield 37, 3) := by decide +kernel
theorem d_X_enough_22 : decode prog_1_method_25_code 22 = .ok (.iload_n 1, 1) := by decide +kernel
theorem d_X_enough_23 : decode prog_1_method_25_code 23 = .ok (.iload_n 2, 1) := by decide +kernel
theorem d_X_enough_24 : decode prog_1_method_25_code 24 = .ok (.invokevirtual 258, 3) := by decide +kernel
theorem d_X_enough_27 : decode prog_1_method_25_code 27 = .ok (.istore_n 3, 1) := by decide +kernel
theorem d_X_enough_28 : decode prog_1_method_25_code 28 = .ok (.iload_n 3, 1) := by decide +kernel
theorem d_X_enough_29 : decode prog_1_method_25_code 29 = .ok (.ifCond .lt 9, 3) := by decide +kernel
theorem d_X_enough_32 : decode prog_1_method_25_code 32 = .ok (.iload_n 3, 1) := by decide +kernel
theorem d_X_enough_33 : decode prog_1_method_25_code 33 = .ok (.bipush 99, 2) := by decide +kernel
theorem d_X_enough_35 : decode prog_1_method_25_code 35 = .ok (.if_icmp .le 8, 3) := by decide +kernel
theorem d_X_enough_38 : decode prog_1_method_25_code 38 = .ok (.bipush (-2), 2) := by decide +kernel
theorem d_X_enough_40 : decode prog_1_method_25_code 40 = .ok (.goto 4, 3) := by decide +kernel
theorem d_X_enough_43 : decode prog_1_method_25_code 43 = .ok (.iload_n 3, 1) := by decide +kernel
theorem d_X_enough_44 : decode prog_1_method_25_code 44 = .ok (.ireturn, 1) := by decide +kernel
noncomputable def F_X_enough : Sm := sSeq (sIf (cOr (cNot (o1 (fun x => decide (x ≠ 0)) (cI (mV 0 D_X_isGoer) [asV Value.ref (vR 0), asV Value.int (vI 1)]))) (cNot (o1 (fun x => decide (x ≠ 0)) (cI (mV 0 D_X_isRoad) [asV Value.ref (vR 0), asV Value.int (vI 2)])))) (sRet (asV Value.int (kI (ii (-1))))) (sSkip)) (sSeq (sDecl (asV Value.int (cI (mV 4 D_Scene_leastToChoose) [asV Value.ref (gR 0 3 (vR 0)), asV Value.int (vI 1), asV Value.int (vI 2)]))) (sRet (asV Value.int (iX (cOr (o1 (fun x => decide (x < 0)) (vI 3)) (o2 (fun x y => decide (x > y)) (vI 3) (kI (ii 99)))) (kI (ii (-2))) (vI 3)))))
theorem mf_X_enough : Mf y_X_enough prog_1_method_25_code 4 (some .int) 2 := ⟨tw_1199, tw_122, by decide +kernel⟩
noncomputable def D_X_enough : Dn := runS [1, 1, 1] F_X_enough
theorem ok_X_enough : MOK y_X_enough prog_1_method_25_code 4 (some .int) 3 0 0 D_X_enough := MOK.of (by decide) (by decide) (show SO Y_X_enough [(0, 1), (1, 1), (2, 1)] [(0, 1), (1, 1), (2, 1), (3, 1)] 0 45 (([], 0), ([], 0)) F_X_enough from
  (s_seq (sl1 := [(0, 1), (1, 1), (2, 1)]) (p1 := 18) (s_if (pt := 16) (pf := 18) (c_or (p1 := 8) (c_not (c_if_eqF (p1 := 5) (tg := 16) (e_cI (p1 := 2) (a_cons (ι := Value.ref) (k0 := 1) (p1 := 1) (fun _ => rfl) (e_aload_n (k0 := 0) d_X_enough_0 rfl rfl) (a_cons (ι := Value.int) (k0 := 1) (p1 := 2) (fun _ => rfl) (e_iload_n (k0 := 1) d_X_enough_1 rfl rfl) a_nil)) (k_virt ok_X_isGoer mf_X_isGoer ⟨tw_915, tw_24⟩ rfl tw_913 d_X_enough_2 (by decide) (by decide) (by decide))) d_X_enough_5 rfl)) (c_not (c_if_neT (p1 := 13) (tg := 18) (e_cI (p1 := 10) (a_cons (ι := Value.ref) (k0 := 1) (p1 := 9) (fun _ => rfl) (e_aload_n (k0 := 0) d_X_enough_8 rfl rfl) (a_cons (ι := Value.int) (k0 := 1) (p1 := 10) (fun _ => rfl) (e_iload_n (k0 := 2) d_X_enough_9 rfl rfl) a_nil)) (k_virt ok_X_isRoad mf_X_isRoad ⟨tw_890, tw_23⟩ rfl tw_888 d_X_enough_10 (by decide) (by decide) (by decide))) d_X_enough_13 rfl))) (s_ret (p1 := 17) (e_iconst d_X_enough_16 (by decide)) rfl d_X_enough_17) s_skip) (s_seq (sl1 := [(0, 1), (1, 1), (2, 1), (3, 1)]) (p1 := 28) (s_decl (p1 := 27) (e_cI (p1 := 24) (a_cons (ι := Value.ref) (k0 := 1) (p1 := 22) (fun _ => rfl) (e_gR (k0 := 3) (p1 := 19) cf_0 (e_aload_n (k0 := 0) d_X_enough_18 rfl rfl) (by decide) tw_568 d_X_enough_19) (a_cons (ι := Value.int) (k0 := 1) (p1 := 23) (fun _ => rfl) (e_iload_n (k0 := 1) d_X_enough_22 rfl rfl) (a_cons (ι := Value.int) (k0 := 1) (p1 := 24) (fun _ => rfl) (e_iload_n (k0 := 2) d_X_enough_23 rfl rfl) a_nil))) (k_virt ok_Scene_leastToChoose mf_Scene_leastToChoose ⟨tw_1201, tw_1202⟩ rfl tw_1200 d_X_enough_24 (by decide) (by decide) (by decide))) (t_istore_n d_X_enough_27 rfl (by decide)) rfl) (s_ret (p1 := 44) (e_ite (pt := 38) (p1 := 40) (pf := 43) (c_or (p1 := 32) (c_if_ltT (p1 := 29) (tg := 38) (e_iload_n (k0 := 3) d_X_enough_28 rfl rfl) d_X_enough_29 rfl) (c_icmp_leF (p1 := 33) (p2 := 35) (tg := 43) (e_iload_n (k0 := 3) d_X_enough_32 rfl rfl) (e_bipush d_X_enough_33 (by decide)) d_X_enough_35 rfl)) (e_bipush d_X_enough_38 (by decide)) d_X_enough_40 rfl (e_iload_n (k0 := 3) d_X_enough_43 rfl rfl)) rfl d_X_enough_44))))
/-! BlinkerCross.open(I)I -/
abbrev y_X_open : MethodName := ⟨"BlinkerCross", "open", "(I)I"⟩
abbrev Y_X_open : Yt := (prog_1_method_26_code, 3, "BlinkerCross", 2, (some .int), "open")
theorem d_X_open_0 : decode prog_1_method_26_code 0 = .ok (.aload_n 0, 1) := by decide +kernel
theorem d_X_open_1 : decode prog_1_method_26_code 1 = .ok (.iload_n 1, 1) := by decide +kernel
theorem d_X_open_2 : decode prog_1_method_26_code 2 = .ok (.invokevirtual 144, 3) := by decide +kernel
theorem d_X_open_5 : decode prog_1_method_26_code 5 = .ok (.ifCond .ne 5, 3) := by decide +kernel
theorem d_X_open_8 : decode prog_1_method_26_code 8 = .ok (.iconst (-1), 1) := by decide +kernel
theorem d_X_open_9 : decode prog_1_method_26_code 9 = .ok (.ireturn, 1) := by decide +kernel
theorem d_X_open_10 : decode prog_1_method_26_code 10 = .ok (.iconst 1, 1) := by decide +kernel
theorem d_X_open_11 : decode prog_1_method_26_code 11 = .ok (.istore_n 2, 1) := by decide +kernel
theorem d_X_open_12 : decode prog_1_method_26_code 12 = .ok (.iload_n 2, 1) := by decide +kernel
theorem d_X_open_13 : decode prog_1_method_26_code 13 = .ok (.bipush 6, 2) := by decide +kernel
theorem d_X_open_15 : decode prog_1_method_26_code 15 = .ok (.if_icmp .ge 30, 3) := by decide +kernel
theorem d_X_open_18 : decode prog_1_method_26_code 18 = .ok (.aload_n 0, 1) := by decide +kernel
theorem d_X_open_19 : decode prog_1_method_26_code 19 = .ok (.getfield 37, 3) := by decide +kernel
theorem d_X_open_22 : decode prog_1_method_26_code 22 = .ok (.iload_n 1, 1) := by decide +kernel
theorem d_X_open_23 : decode prog_1_method_26_code 23 = .ok (.aload_n 0, 1) := by decide +kernel
theorem d_X_open_24 : decode prog_1_method_26_code 24 = .ok (.getfield 37, 3) := by decide +kernel
theorem d_X_open_27 : decode prog_1_method_26_code 27 = .ok (.iload_n 1, 1) := by decide +kernel
theorem d_X_open_28 : decode prog_1_method_26_code 28 = .ok (.iload_n 2, 1) := by decide +kernel
theorem d_X_open_29 : decode prog_1_method_26_code 29 = .ok (.iconst (-1), 1) := by decide +kernel
theorem d_X_open_30 : decode prog_1_method_26_code 30 = .ok (.invokevirtual 261, 3) := by decide +kernel
theorem d_X_open_33 : decode prog_1_method_26_code 33 = .ok (.invokevirtual 160, 3) := by decide +kernel
theorem d_X_open_36 : decode prog_1_method_26_code 36 = .ok (.ifCond .le 9, 3) := by decide +kernel
theorem d_X_open_39 : decode prog_1_method_26_code 39 = .ok (.iinc 2 1, 3) := by decide +kernel
theorem d_X_open_42 : decode prog_1_method_26_code 42 = .ok (.goto (-30), 3) := by decide +kernel
theorem d_X_open_45 : decode prog_1_method_26_code 45 = .ok (.iload_n 2, 1) := by decide +kernel
theorem d_X_open_46 : decode prog_1_method_26_code 46 = .ok (.ireturn, 1) := by decide +kernel
noncomputable def Lc_X_open_1 : Xp Bool := cAnd (o2 (fun x y => decide (x < y)) (vI 2) (kI (ii 6))) (o1 (fun x => decide (x > 0)) (cI (mV 4 D_Scene_missedBy) [asV Value.ref (gR 0 3 (vR 0)), asV Value.int (vI 1), asV Value.int (cI (mV 4 D_Scene_choiceWith) [asV Value.ref (gR 0 3 (vR 0)), asV Value.int (vI 1), asV Value.int (vI 2), asV Value.int (kI (ii (-1)))])]))
noncomputable def Lb_X_open_1 : Sm := sInc 2 (ii 1)
noncomputable def Lu_X_open_1 : Sm := sSkip
noncomputable def F_X_open : Sm := sSeq (sIf (cNot (o1 (fun x => decide (x ≠ 0)) (cI (mV 0 D_X_isGoer) [asV Value.ref (vR 0), asV Value.int (vI 1)]))) (sRet (asV Value.int (kI (ii (-1))))) (sSkip)) (sSeq (sDecl (asV Value.int (kI (ii 1)))) (sSeq (sWh (Lc_X_open_1) (Lb_X_open_1) Lu_X_open_1) (sRet (asV Value.int (vI 2)))))
theorem mf_X_open : Mf y_X_open prog_1_method_26_code 3 (some .int) 1 := ⟨tw_1207, tw_122, by decide +kernel⟩
noncomputable def D_X_open : Dn := runS [1, 1] F_X_open
theorem ok_X_open : MOK y_X_open prog_1_method_26_code 3 (some .int) 2 0 0 D_X_open := MOK.of (by decide) (by decide) (show SO Y_X_open [(0, 1), (1, 1)] [(0, 1), (1, 1), (2, 1)] 0 47 (([], 0), ([], 0)) F_X_open from
  (s_seq (sl1 := [(0, 1), (1, 1)]) (p1 := 10) (s_if (pt := 8) (pf := 10) (c_not (c_if_neT (p1 := 5) (tg := 10) (e_cI (p1 := 2) (a_cons (ι := Value.ref) (k0 := 1) (p1 := 1) (fun _ => rfl) (e_aload_n (k0 := 0) d_X_open_0 rfl rfl) (a_cons (ι := Value.int) (k0 := 1) (p1 := 2) (fun _ => rfl) (e_iload_n (k0 := 1) d_X_open_1 rfl rfl) a_nil)) (k_virt ok_X_isGoer mf_X_isGoer ⟨tw_915, tw_24⟩ rfl tw_913 d_X_open_2 (by decide) (by decide) (by decide))) d_X_open_5 rfl)) (s_ret (p1 := 9) (e_iconst d_X_open_8 (by decide)) rfl d_X_open_9) s_skip) (s_seq (sl1 := [(0, 1), (1, 1), (2, 1)]) (p1 := 12) (s_decl (p1 := 11) (e_iconst d_X_open_10 (by decide)) (t_istore_n d_X_open_11 rfl (by decide)) rfl) (s_seq (sl1 := [(0, 1), (1, 1), (2, 1)]) (p1 := 45) (s_for (pt := 39) (pu := 12) (pf := 45) (pg := 0) (c_and (p1 := 18) (c_icmp_geF (p1 := 13) (p2 := 15) (tg := 45) (e_iload_n (k0 := 2) d_X_open_12 rfl rfl) (e_bipush d_X_open_13 (by decide)) d_X_open_15 rfl) (c_if_leF (p1 := 36) (tg := 45) (e_cI (p1 := 33) (a_cons (ι := Value.ref) (k0 := 1) (p1 := 22) (fun _ => rfl) (e_gR (k0 := 3) (p1 := 19) cf_0 (e_aload_n (k0 := 0) d_X_open_18 rfl rfl) (by decide) tw_568 d_X_open_19) (a_cons (ι := Value.int) (k0 := 1) (p1 := 23) (fun _ => rfl) (e_iload_n (k0 := 1) d_X_open_22 rfl rfl) (a_cons (ι := Value.int) (k0 := 1) (p1 := 33) (fun _ => rfl) (e_cI (p1 := 30) (a_cons (ι := Value.ref) (k0 := 1) (p1 := 27) (fun _ => rfl) (e_gR (k0 := 3) (p1 := 24) cf_0 (e_aload_n (k0 := 0) d_X_open_23 rfl rfl) (by decide) tw_568 d_X_open_24) (a_cons (ι := Value.int) (k0 := 1) (p1 := 28) (fun _ => rfl) (e_iload_n (k0 := 1) d_X_open_27 rfl rfl) (a_cons (ι := Value.int) (k0 := 1) (p1 := 29) (fun _ => rfl) (e_iload_n (k0 := 2) d_X_open_28 rfl rfl) (a_cons (ι := Value.int) (k0 := 1) (p1 := 30) (fun _ => rfl) (e_iconst d_X_open_29 (by decide)) a_nil)))) (k_virt ok_Scene_choiceWith mf_Scene_choiceWith ⟨tw_865, tw_866⟩ rfl tw_1208 d_X_open_30 (by decide) (by decide) (by decide))) a_nil))) (k_virt ok_Scene_missedBy mf_Scene_missedBy ⟨tw_949, tw_950⟩ rfl tw_948 d_X_open_33 (by decide) (by decide) (by decide))) d_X_open_36 rfl)) (s_goto (p1 := 42) (s_inc (k0 := 2) d_X_open_39 rfl rfl (Nat.le_of_ble_eq_true rfl) rfl) d_X_open_42 rfl) s_skip) (s_ret (p1 := 46) (e_iload_n (k0 := 2) d_X_open_45 rfl rfl) rfl d_X_open_46)))))
/-! BlinkerCross.crowded(I)I -/
abbrev y_X_crowded : MethodName := ⟨"BlinkerCross", "crowded", "(I)I"⟩
abbrev Y_X_crowded : Yt := (prog_1_method_27_code, 4, "BlinkerCross", 0, (some .int), "crowded")
theorem d_X_crowded_0 : decode prog_1_method_27_code 0 = .ok (.iload_n 1, 1) := by decide +kernel
theorem d_X_crowded_1 : decode prog_1_method_27_code 1 = .ok (.ifCond .eq 10, 3) := by decide +kernel
theorem d_X_crowded_4 : decode prog_1_method_27_code 4 = .ok (.iload_n 1, 1) := by decide +kernel
theorem d_X_crowded_5 : decode prog_1_method_27_code 5 = .ok (.iconst 1, 1) := by decide +kernel
theorem d_X_crowded_6 : decode prog_1_method_27_code 6 = .ok (.if_icmp .eq 5, 3) := by decide +kernel
theorem d_X_crowded_9 : decode prog_1_method_27_code 9 = .ok (.iconst (-1), 1) := by decide +kernel
theorem d_X_crowded_10 : decode prog_1_method_27_code 10 = .ok (.ireturn, 1) := by decide +kernel
theorem d_X_crowded_11 : decode prog_1_method_27_code 11 = .ok (.aload_n 0, 1) := by decide +kernel
theorem d_X_crowded_12 : decode prog_1_method_27_code 12 = .ok (.getfield 19, 3) := by decide +kernel
theorem d_X_crowded_15 : decode prog_1_method_27_code 15 = .ok (.getfield 265, 3) := by decide +kernel
theorem d_X_crowded_18 : decode prog_1_method_27_code 18 = .ok (.ifCond .ne 6, 3) := by decide +kernel
theorem d_X_crowded_21 : decode prog_1_method_27_code 21 = .ok (.bipush (-2), 2) := by decide +kernel
theorem d_X_crowded_23 : decode prog_1_method_27_code 23 = .ok (.ireturn, 1) := by decide +kernel
theorem d_X_crowded_24 : decode prog_1_method_27_code 24 = .ok (.iconst 0, 1) := by decide +kernel
theorem d_X_crowded_25 : decode prog_1_method_27_code 25 = .ok (.istore_n 2, 1) := by decide +kernel
theorem d_X_crowded_26 : decode prog_1_method_27_code 26 = .ok (.iconst 1, 1) := by decide +kernel
theorem d_X_crowded_27 : decode prog_1_method_27_code 27 = .ok (.istore_n 3, 1) := by decide +kernel
theorem d_X_crowded_28 : decode prog_1_method_27_code 28 = .ok (.iload_n 3, 1) := by decide +kernel
theorem d_X_crowded_29 : decode prog_1_method_27_code 29 = .ok (.aload_n 0, 1) := by decide +kernel
theorem d_X_crowded_30 : decode prog_1_method_27_code 30 = .ok (.getfield 19, 3) := by decide +kernel
theorem d_X_crowded_33 : decode prog_1_method_27_code 33 = .ok (.getfield 265, 3) := by decide +kernel
theorem d_X_crowded_36 : decode prog_1_method_27_code 36 = .ok (.if_icmp .ge 32, 3) := by decide +kernel
theorem d_X_crowded_39 : decode prog_1_method_27_code 39 = .ok (.aload_n 0, 1) := by decide +kernel
theorem d_X_crowded_40 : decode prog_1_method_27_code 40 = .ok (.getfield 37, 3) := by decide +kernel
theorem d_X_crowded_43 : decode prog_1_method_27_code 43 = .ok (.getfield 134, 3) := by decide +kernel
theorem d_X_crowded_46 : decode prog_1_method_27_code 46 = .ok (.iload_n 3, 1) := by decide +kernel
theorem d_X_crowded_47 : decode prog_1_method_27_code 47 = .ok (.iaload, 1) := by decide +kernel
theorem d_X_crowded_48 : decode prog_1_method_27_code 48 = .ok (.aload_n 0, 1) := by decide +kernel
theorem d_X_crowded_49 : decode prog_1_method_27_code 49 = .ok (.getfield 37, 3) := by decide +kernel
theorem d_X_crowded_52 : decode prog_1_method_27_code 52 = .ok (.getfield 134, 3) := by decide +kernel
theorem d_X_crowded_55 : decode prog_1_method_27_code 55 = .ok (.iload_n 2, 1) := by decide +kernel
theorem d_X_crowded_56 : decode prog_1_method_27_code 56 = .ok (.iaload, 1) := by decide +kernel
theorem d_X_crowded_57 : decode prog_1_method_27_code 57 = .ok (.if_icmp .le 5, 3) := by decide +kernel
theorem d_X_crowded_60 : decode prog_1_method_27_code 60 = .ok (.iload_n 3, 1) := by decide +kernel
theorem d_X_crowded_61 : decode prog_1_method_27_code 61 = .ok (.istore_n 2, 1) := by decide +kernel
theorem d_X_crowded_62 : decode prog_1_method_27_code 62 = .ok (.iinc 3 1, 3) := by decide +kernel
theorem d_X_crowded_65 : decode prog_1_method_27_code 65 = .ok (.goto (-37), 3) := by decide +kernel
theorem d_X_crowded_68 : decode prog_1_method_27_code 68 = .ok (.iload_n 1, 1) := by decide +kernel
theorem d_X_crowded_69 : decode prog_1_method_27_code 69 = .ok (.ifCond .ne 7, 3) := by decide +kernel
theorem d_X_crowded_72 : decode prog_1_method_27_code 72 = .ok (.iload_n 2, 1) := by decide +kernel
theorem d_X_crowded_73 : decode prog_1_method_27_code 73 = .ok (.goto 12, 3) := by decide +kernel
theorem d_X_crowded_76 : decode prog_1_method_27_code 76 = .ok (.aload_n 0, 1) := by decide +kernel
theorem d_X_crowded_77 : decode prog_1_method_27_code 77 = .ok (.getfield 37, 3) := by decide +kernel
theorem d_X_crowded_80 : decode prog_1_method_27_code 80 = .ok (.getfield 134, 3) := by decide +kernel
theorem d_X_crowded_83 : decode prog_1_method_27_code 83 = .ok (.iload_n 2, 1) := by decide +kernel
theorem d_X_crowded_84 : decode prog_1_method_27_code 84 = .ok (.iaload, 1) := by decide +kernel
theorem d_X_crowded_85 : decode prog_1_method_27_code 85 = .ok (.ireturn, 1) := by decide +kernel
noncomputable def Lc_X_crowded_1 : Xp Bool := o2 (fun x y => decide (x < y)) (vI 3) (gI 2 0 (gR 0 1 (vR 0)))
noncomputable def Lb_X_crowded_1 : Sm := sIf (o2 (fun x y => decide (x > y)) (aI 0 (gR 4 2 (gR 0 3 (vR 0))) (vI 3)) (aI 0 (gR 4 2 (gR 0 3 (vR 0))) (vI 2))) (sSet 2 (asV Value.int (vI 3))) (sSkip)
noncomputable def Lu_X_crowded_1 : Sm := sInc 3 (ii 1)
noncomputable def F_X_crowded : Sm := sSeq (sIf (cAnd (o1 (fun x => decide (x ≠ 0)) (vI 1)) (o2 (fun x y => decide (x ≠ y)) (vI 1) (kI (ii 1)))) (sRet (asV Value.int (kI (ii (-1))))) (sSkip)) (sSeq (sIf (o1 (fun x => decide (x = 0)) (gI 2 0 (gR 0 1 (vR 0)))) (sRet (asV Value.int (kI (ii (-2))))) (sSkip)) (sSeq (sDecl (asV Value.int (kI (ii 0)))) (sSeq (sBlk 3 (sSeq (sDecl (asV Value.int (kI (ii 1)))) (sWh (Lc_X_crowded_1) (Lb_X_crowded_1) Lu_X_crowded_1))) (sRet (asV Value.int (iX (o1 (fun x => decide (x = 0)) (vI 1)) (vI 2) (aI 0 (gR 4 2 (gR 0 3 (vR 0))) (vI 2))))))))
theorem mf_X_crowded : Mf y_X_crowded prog_1_method_27_code 4 (some .int) 1 := ⟨tw_1212, tw_122, by decide +kernel⟩
noncomputable def D_X_crowded : Dn := runS [1, 1] F_X_crowded
theorem ok_X_crowded : MOK y_X_crowded prog_1_method_27_code 4 (some .int) 0 0 0 D_X_crowded := MOK.of (by decide) (by decide) (show SO Y_X_crowded [(0, 1), (1, 1)] [(0, 1), (1, 1), (2, 1)] 0 86 (([], 0), ([], 0)) F_X_crowded from
  (s_seq (sl1 := [(0, 1), (1, 1)]) (p1 := 11) (s_if (pt := 9) (pf := 11) (c_and (p1 := 4) (c_if_eqF (p1 := 1) (tg := 11) (e_iload_n (k0 := 1) d_X_crowded_0 rfl rfl) d_X_crowded_1 rfl) (c_icmp_eqF (p1 := 5) (p2 := 6) (tg := 11) (e_iload_n (k0 := 1) d_X_crowded_4 rfl rfl) (e_iconst d_X_crowded_5 (by decide)) d_X_crowded_6 rfl)) (s_ret (p1 := 10) (e_iconst d_X_crowded_9 (by decide)) rfl d_X_crowded_10) s_skip) (s_seq (sl1 := [(0, 1), (1, 1)]) (p1 := 24) (s_if (pt := 21) (pf := 24) (c_if_neF (p1 := 18) (tg := 24) (e_gI (k0 := 0) (p1 := 15) cf_2 (e_gR (k0 := 1) (p1 := 12) cf_0 (e_aload_n (k0 := 0) d_X_crowded_11 rfl rfl) (by decide) tw_566 d_X_crowded_12) (by decide) tw_203 d_X_crowded_15) d_X_crowded_18 rfl) (s_ret (p1 := 23) (e_bipush d_X_crowded_21 (by decide)) rfl d_X_crowded_23) s_skip) (s_seq (sl1 := [(0, 1), (1, 1), (2, 1)]) (p1 := 26) (s_decl (p1 := 25) (e_iconst d_X_crowded_24 (by decide)) (t_istore_n d_X_crowded_25 rfl (by decide)) rfl) (s_seq (sl1 := [(0, 1), (1, 1), (2, 1)]) (p1 := 68) (s_blk (sl1 := [(0, 1), (1, 1), (2, 1), (3, 1)]) (s_seq (sl1 := [(0, 1), (1, 1), (2, 1), (3, 1)]) (p1 := 28) (s_decl (p1 := 27) (e_iconst d_X_crowded_26 (by decide)) (t_istore_n d_X_crowded_27 rfl (by decide)) rfl) (s_for (pt := 39) (pu := 62) (pf := 68) (pg := 0) (c_icmp_geF (p1 := 29) (p2 := 36) (tg := 68) (e_iload_n (k0 := 3) d_X_crowded_28 rfl rfl) (e_gI (k0 := 0) (p1 := 33) cf_2 (e_gR (k0 := 1) (p1 := 30) cf_0 (e_aload_n (k0 := 0) d_X_crowded_29 rfl rfl) (by decide) tw_566 d_X_crowded_30) (by decide) tw_203 d_X_crowded_33) d_X_crowded_36 rfl) (s_if (pt := 60) (pf := 62) (c_icmp_leF (p1 := 48) (p2 := 57) (tg := 62) (e_iald (p1 := 46) (p2 := 47) (e_gR (k0 := 2) (p1 := 43) cf_4 (e_gR (k0 := 3) (p1 := 40) cf_0 (e_aload_n (k0 := 0) d_X_crowded_39 rfl rfl) (by decide) tw_568 d_X_crowded_40) (by decide) tw_329 d_X_crowded_43) (e_iload_n (k0 := 3) d_X_crowded_46 rfl rfl) d_X_crowded_47) (e_iald (p1 := 55) (p2 := 56) (e_gR (k0 := 2) (p1 := 52) cf_4 (e_gR (k0 := 3) (p1 := 49) cf_0 (e_aload_n (k0 := 0) d_X_crowded_48 rfl rfl) (by decide) tw_568 d_X_crowded_49) (by decide) tw_329 d_X_crowded_52) (e_iload_n (k0 := 2) d_X_crowded_55 rfl rfl) d_X_crowded_56) d_X_crowded_57 rfl) (s_set (k0 := 2) (p1 := 61) (e_iload_n (k0 := 3) d_X_crowded_60 rfl rfl) (t_istore_n d_X_crowded_61 rfl (by decide)) rfl rfl) s_skip) (s_goto (p1 := 65) (s_inc (k0 := 3) d_X_crowded_62 rfl rfl (Nat.le_of_ble_eq_true rfl) rfl) d_X_crowded_65 rfl))) rfl) (s_ret (p1 := 85) (e_ite (pt := 72) (p1 := 73) (pf := 76) (c_if_neF (p1 := 69) (tg := 76) (e_iload_n (k0 := 1) d_X_crowded_68 rfl rfl) d_X_crowded_69 rfl) (e_iload_n (k0 := 2) d_X_crowded_72 rfl rfl) d_X_crowded_73 rfl (e_iald (p1 := 83) (p2 := 84) (e_gR (k0 := 2) (p1 := 80) cf_4 (e_gR (k0 := 3) (p1 := 77) cf_0 (e_aload_n (k0 := 0) d_X_crowded_76 rfl rfl) (by decide) tw_568 d_X_crowded_77) (by decide) tw_329 d_X_crowded_80) (e_iload_n (k0 := 2) d_X_crowded_83 rfl rfl) d_X_crowded_84)) rfl d_X_crowded_85))))))
/-! BlinkerCross.same(I)I -/
abbrev y_X_same : MethodName := ⟨"BlinkerCross", "same", "(I)I"⟩
abbrev Y_X_same : Yt := (prog_1_method_28_code, 4, "BlinkerCross", 1, (some .int), "same")
theorem d_X_same_0 : decode prog_1_method_28_code 0 = .ok (.aload_n 0, 1) := by decide +kernel
theorem d_X_same_1 : decode prog_1_method_28_code 1 = .ok (.iload_n 1, 1) := by decide +kernel
theorem d_X_same_2 : decode prog_1_method_28_code 2 = .ok (.invokevirtual 144, 3) := by decide +kernel
theorem d_X_same_5 : decode prog_1_method_28_code 5 = .ok (.ifCond .ne 5, 3) := by decide +kernel
theorem d_X_same_8 : decode prog_1_method_28_code 8 = .ok (.iconst (-1), 1) := by decide +kernel
theorem d_X_same_9 : decode prog_1_method_28_code 9 = .ok (.ireturn, 1) := by decide +kernel
theorem d_X_same_10 : decode prog_1_method_28_code 10 = .ok (.iconst 0, 1) := by decide +kernel
theorem d_X_same_11 : decode prog_1_method_28_code 11 = .ok (.istore_n 2, 1) := by decide +kernel
theorem d_X_same_12 : decode prog_1_method_28_code 12 = .ok (.iconst 0, 1) := by decide +kernel
theorem d_X_same_13 : decode prog_1_method_28_code 13 = .ok (.istore_n 3, 1) := by decide +kernel
theorem d_X_same_14 : decode prog_1_method_28_code 14 = .ok (.iload_n 3, 1) := by decide +kernel
theorem d_X_same_15 : decode prog_1_method_28_code 15 = .ok (.aload_n 0, 1) := by decide +kernel
theorem d_X_same_16 : decode prog_1_method_28_code 16 = .ok (.getfield 19, 3) := by decide +kernel
theorem d_X_same_19 : decode prog_1_method_28_code 19 = .ok (.getfield 203, 3) := by decide +kernel
theorem d_X_same_22 : decode prog_1_method_28_code 22 = .ok (.if_icmp .ge 41, 3) := by decide +kernel
theorem d_X_same_25 : decode prog_1_method_28_code 25 = .ok (.iload_n 3, 1) := by decide +kernel
theorem d_X_same_26 : decode prog_1_method_28_code 26 = .ok (.iload_n 1, 1) := by decide +kernel
theorem d_X_same_27 : decode prog_1_method_28_code 27 = .ok (.if_icmp .eq 30, 3) := by decide +kernel
theorem d_X_same_30 : decode prog_1_method_28_code 30 = .ok (.aload_n 0, 1) := by decide +kernel
theorem d_X_same_31 : decode prog_1_method_28_code 31 = .ok (.getfield 37, 3) := by decide +kernel
theorem d_X_same_34 : decode prog_1_method_28_code 34 = .ok (.getfield 154, 3) := by decide +kernel
theorem d_X_same_37 : decode prog_1_method_28_code 37 = .ok (.iload_n 3, 1) := by decide +kernel
theorem d_X_same_38 : decode prog_1_method_28_code 38 = .ok (.iaload, 1) := by decide +kernel
theorem d_X_same_39 : decode prog_1_method_28_code 39 = .ok (.aload_n 0, 1) := by decide +kernel
theorem d_X_same_40 : decode prog_1_method_28_code 40 = .ok (.getfield 37, 3) := by decide +kernel
theorem d_X_same_43 : decode prog_1_method_28_code 43 = .ok (.getfield 154, 3) := by decide +kernel
theorem d_X_same_46 : decode prog_1_method_28_code 46 = .ok (.iload_n 1, 1) := by decide +kernel
theorem d_X_same_47 : decode prog_1_method_28_code 47 = .ok (.iaload, 1) := by decide +kernel
theorem d_X_same_48 : decode prog_1_method_28_code 48 = .ok (.if_icmp .ne 9, 3) := by decide +kernel
theorem d_X_same_51 : decode prog_1_method_28_code 51 = .ok (.iload_n 2, 1) := by decide +kernel
theorem d_X_same_52 : decode prog_1_method_28_code 52 = .ok (.iconst 1, 1) := by decide +kernel
theorem d_X_same_53 : decode prog_1_method_28_code 53 = .ok (.iload_n 3, 1) := by decide +kernel
theorem d_X_same_54 : decode prog_1_method_28_code 54 = .ok (.ishl, 1) := by decide +kernel
theorem d_X_same_55 : decode prog_1_method_28_code 55 = .ok (.ior, 1) := by decide +kernel
theorem d_X_same_56 : decode prog_1_method_28_code 56 = .ok (.istore_n 2, 1) := by decide +kernel
theorem d_X_same_57 : decode prog_1_method_28_code 57 = .ok (.iinc 3 1, 3) := by decide +kernel
theorem d_X_same_60 : decode prog_1_method_28_code 60 = .ok (.goto (-46), 3) := by decide +kernel
theorem d_X_same_63 : decode prog_1_method_28_code 63 = .ok (.iload_n 2, 1) := by decide +kernel
theorem d_X_same_64 : decode prog_1_method_28_code 64 = .ok (.ireturn, 1) := by decide +kernel
noncomputable def Lc_X_same_1 : Xp Bool := o2 (fun x y => decide (x < y)) (vI 3) (gI 2 1 (gR 0 1 (vR 0)))
noncomputable def Lb_X_same_1 : Sm := sIf (cAnd (o2 (fun x y => decide (x ≠ y)) (vI 3) (vI 1)) (o2 (fun x y => decide (x = y)) (aI 0 (gR 4 1 (gR 0 3 (vR 0))) (vI 3)) (aI 0 (gR 4 1 (gR 0 3 (vR 0))) (vI 1)))) (sSet 2 (asV Value.int (o2 (fun x y => x ||| y) (vI 2) (o2 (fun (x y : Int32) => x <<< (y &&& 31)) (kI (ii 1)) (vI 3))))) (sSkip)
noncomputable def Lu_X_same_1 : Sm := sInc 3 (ii 1)
noncomputable def F_X_same : Sm := sSeq (sIf (cNot (o1 (fun x => decide (x ≠ 0)) (cI (mV 0 D_X_isGoer) [asV Value.ref (vR 0), asV Value.int (vI 1)]))) (sRet (asV Value.int (kI (ii (-1))))) (sSkip)) (sSeq (sDecl (asV Value.int (kI (ii 0)))) (sSeq (sBlk 3 (sSeq (sDecl (asV Value.int (kI (ii 0)))) (sWh (Lc_X_same_1) (Lb_X_same_1) Lu_X_same_1))) (sRet (asV Value.int (vI 2)))))
theorem mf_X_same : Mf y_X_same prog_1_method_28_code 4 (some .int) 1 := ⟨tw_1216, tw_122, by decide +kernel⟩
noncomputable def D_X_same : Dn := runS [1, 1] F_X_same
theorem ok_X_same : MOK y_X_same prog_1_method_28_code 4 (some .int) 1 0 0 D_X_same := MOK.of (by decide) (by decide) (show SO Y_X_same [(0, 1), (1, 1)] [(0, 1), (1, 1), (2, 1)] 0 65 (([], 0), ([], 0)) F_X_same from
  (s_seq (sl1 := [(0, 1), (1, 1)]) (p1 := 10) (s_if (pt := 8) (pf := 10) (c_not (c_if_neT (p1 := 5) (tg := 10) (e_cI (p1 := 2) (a_cons (ι := Value.ref) (k0 := 1) (p1 := 1) (fun _ => rfl) (e_aload_n (k0 := 0) d_X_same_0 rfl rfl) (a_cons (ι := Value.int) (k0 := 1) (p1 := 2) (fun _ => rfl) (e_iload_n (k0 := 1) d_X_same_1 rfl rfl) a_nil)) (k_virt ok_X_isGoer mf_X_isGoer ⟨tw_915, tw_24⟩ rfl tw_913 d_X_same_2 (by decide) (by decide) (by decide))) d_X_same_5 rfl)) (s_ret (p1 := 9) (e_iconst d_X_same_8 (by decide)) rfl d_X_same_9) s_skip) (s_seq (sl1 := [(0, 1), (1, 1), (2, 1)]) (p1 := 12) (s_decl (p1 := 11) (e_iconst d_X_same_10 (by decide)) (t_istore_n d_X_same_11 rfl (by decide)) rfl) (s_seq (sl1 := [(0, 1), (1, 1), (2, 1)]) (p1 := 63) (s_blk (sl1 := [(0, 1), (1, 1), (2, 1), (3, 1)]) (s_seq (sl1 := [(0, 1), (1, 1), (2, 1), (3, 1)]) (p1 := 14) (s_decl (p1 := 13) (e_iconst d_X_same_12 (by decide)) (t_istore_n d_X_same_13 rfl (by decide)) rfl) (s_for (pt := 25) (pu := 57) (pf := 63) (pg := 0) (c_icmp_geF (p1 := 15) (p2 := 22) (tg := 63) (e_iload_n (k0 := 3) d_X_same_14 rfl rfl) (e_gI (k0 := 1) (p1 := 19) cf_2 (e_gR (k0 := 1) (p1 := 16) cf_0 (e_aload_n (k0 := 0) d_X_same_15 rfl rfl) (by decide) tw_566 d_X_same_16) (by decide) tw_213 d_X_same_19) d_X_same_22 rfl) (s_if (pt := 51) (pf := 57) (c_and (p1 := 30) (c_icmp_eqF (p1 := 26) (p2 := 27) (tg := 57) (e_iload_n (k0 := 3) d_X_same_25 rfl rfl) (e_iload_n (k0 := 1) d_X_same_26 rfl rfl) d_X_same_27 rfl) (c_icmp_neF (p1 := 39) (p2 := 48) (tg := 57) (e_iald (p1 := 37) (p2 := 38) (e_gR (k0 := 1) (p1 := 34) cf_4 (e_gR (k0 := 3) (p1 := 31) cf_0 (e_aload_n (k0 := 0) d_X_same_30 rfl rfl) (by decide) tw_568 d_X_same_31) (by decide) tw_326 d_X_same_34) (e_iload_n (k0 := 3) d_X_same_37 rfl rfl) d_X_same_38) (e_iald (p1 := 46) (p2 := 47) (e_gR (k0 := 1) (p1 := 43) cf_4 (e_gR (k0 := 3) (p1 := 40) cf_0 (e_aload_n (k0 := 0) d_X_same_39 rfl rfl) (by decide) tw_568 d_X_same_40) (by decide) tw_326 d_X_same_43) (e_iload_n (k0 := 1) d_X_same_46 rfl rfl) d_X_same_47) d_X_same_48 rfl)) (s_set (k0 := 2) (p1 := 56) (e_ior (p1 := 52) (p2 := 55) (e_iload_n (k0 := 2) d_X_same_51 rfl rfl) (e_ishl (p1 := 53) (p2 := 54) (e_iconst d_X_same_52 (by decide)) (e_iload_n (k0 := 3) d_X_same_53 rfl rfl) d_X_same_54) d_X_same_55) (t_istore_n d_X_same_56 rfl (by decide)) rfl rfl) s_skip) (s_goto (p1 := 60) (s_inc (k0 := 3) d_X_same_57 rfl rfl (Nat.le_of_ble_eq_true rfl) rfl) d_X_same_60 rfl))) rfl) (s_ret (p1 := 64) (e_iload_n (k0 := 2) d_X_same_63 rfl rfl) rfl d_X_same_64)))))
/-! BlinkerCross.then(III)I -/
abbrev y_X_then : MethodName := ⟨"BlinkerCross", "then", "(III)I"⟩
abbrev Y_X_then : Yt := (prog_1_method_29_code, 5, "BlinkerCross", 7, (some .int), "then")
theorem d_X_then_0 : decode prog_1_method_29_code 0 = .ok (.aload_n 0, 1) := by decide +kernel
theorem d_X_then_1 : decode prog_1_method_29_code 1 = .ok (.iload_n 1, 1) := by decide +kernel
theorem d_X_then_2 : decode prog_1_method_29_code 2 = .ok (.invokevirtual 144, 3) := by decide +kernel
theorem d_X_then_5 : decode prog_1_method_29_code 5 = .ok (.ifCond .eq 22, 3) := by decide +kernel
theorem d_X_then_8 : decode prog_1_method_29_code 8 = .ok (.iload_n 2, 1) := by decide +kernel
theorem d_X_then_9 : decode prog_1_method_29_code 9 = .ok (.ifCond .lt 18, 3) := by decide +kernel
theorem d_X_then_12 : decode prog_1_method_29_code 12 = .ok (.iload_n 2, 1) := by decide +kernel
theorem d_X_then_13 : decode prog_1_method_29_code 13 = .ok (.bipush 60, 2) := by decide +kernel
theorem d_X_then_15 : decode prog_1_method_29_code 15 = .ok (.if_icmp .gt 12, 3) := by decide +kernel
theorem d_X_then_18 : decode prog_1_method_29_code 18 = .ok (.iload_n 3, 1) := by decide +kernel
theorem d_X_then_19 : decode prog_1_method_29_code 19 = .ok (.ifCond .lt 8, 3) := by decide +kernel
theorem d_X_then_22 : decode prog_1_method_29_code 22 = .ok (.iload_n 3, 1) := by decide +kernel
theorem d_X_then_23 : decode prog_1_method_29_code 23 = .ok (.iconst 2, 1) := by decide +kernel
theorem d_X_then_24 : decode prog_1_method_29_code 24 = .ok (.if_icmp .le 5, 3) := by decide +kernel
theorem d_X_then_27 : decode prog_1_method_29_code 27 = .ok (.iconst (-1), 1) := by decide +kernel
theorem d_X_then_28 : decode prog_1_method_29_code 28 = .ok (.ireturn, 1) := by decide +kernel
theorem d_X_then_29 : decode prog_1_method_29_code 29 = .ok (.aload_n 0, 1) := by decide +kernel
theorem d_X_then_30 : decode prog_1_method_29_code 30 = .ok (.getfield 53, 3) := by decide +kernel
theorem d_X_then_33 : decode prog_1_method_29_code 33 = .ok (.aload_n 0, 1) := by decide +kernel
theorem d_X_then_34 : decode prog_1_method_29_code 34 = .ok (.getfield 37, 3) := by decide +kernel
theorem d_X_then_37 : decode prog_1_method_29_code 37 = .ok (.iload_n 2, 1) := by decide +kernel
theorem d_X_then_38 : decode prog_1_method_29_code 38 = .ok (.aload_n 0, 1) := by decide +kernel
theorem d_X_then_39 : decode prog_1_method_29_code 39 = .ok (.getfield 19, 3) := by decide +kernel
theorem d_X_then_42 : decode prog_1_method_29_code 42 = .ok (.getfield 192, 3) := by decide +kernel
theorem d_X_then_45 : decode prog_1_method_29_code 45 = .ok (.invokevirtual 268, 3) := by decide +kernel
theorem d_X_then_48 : decode prog_1_method_29_code 48 = .ok (.astore 4, 2) := by decide +kernel
theorem d_X_then_50 : decode prog_1_method_29_code 50 = .ok (.iload_n 3, 1) := by decide +kernel
theorem d_X_then_51 : decode prog_1_method_29_code 51 = .ok (.ifCond .ne 14, 3) := by decide +kernel
theorem d_X_then_54 : decode prog_1_method_29_code 54 = .ok (.aload 4, 2) := by decide +kernel
theorem d_X_then_56 : decode prog_1_method_29_code 56 = .ok (.getfield 151, 3) := by decide +kernel
theorem d_X_then_59 : decode prog_1_method_29_code 59 = .ok (.bipush 15, 2) := by decide +kernel
theorem d_X_then_61 : decode prog_1_method_29_code 61 = .ok (.iload_n 1, 1) := by decide +kernel
theorem d_X_then_62 : decode prog_1_method_29_code 62 = .ok (.iadd, 1) := by decide +kernel
theorem d_X_then_63 : decode prog_1_method_29_code 63 = .ok (.iaload, 1) := by decide +kernel
theorem d_X_then_64 : decode prog_1_method_29_code 64 = .ok (.ireturn, 1) := by decide +kernel
theorem d_X_then_65 : decode prog_1_method_29_code 65 = .ok (.iload_n 3, 1) := by decide +kernel
theorem d_X_then_66 : decode prog_1_method_29_code 66 = .ok (.iconst 1, 1) := by decide +kernel
theorem d_X_then_67 : decode prog_1_method_29_code 67 = .ok (.if_icmp .ne 15, 3) := by decide +kernel
theorem d_X_then_70 : decode prog_1_method_29_code 70 = .ok (.aload 4, 2) := by decide +kernel
theorem d_X_then_72 : decode prog_1_method_29_code 72 = .ok (.getfield 151, 3) := by decide +kernel
theorem d_X_then_75 : decode prog_1_method_29_code 75 = .ok (.iconst 0, 1) := by decide +kernel
theorem d_X_then_76 : decode prog_1_method_29_code 76 = .ok (.iload_n 1, 1) := by decide +kernel
theorem d_X_then_77 : decode prog_1_method_29_code 77 = .ok (.iadd, 1) := by decide +kernel
theorem d_X_then_78 : decode prog_1_method_29_code 78 = .ok (.iaload, 1) := by decide +kernel
theorem d_X_then_79 : decode prog_1_method_29_code 79 = .ok (.goto 12, 3) := by decide +kernel
theorem d_X_then_82 : decode prog_1_method_29_code 82 = .ok (.aload 4, 2) := by decide +kernel
theorem d_X_then_84 : decode prog_1_method_29_code 84 = .ok (.getfield 151, 3) := by decide +kernel
theorem d_X_then_87 : decode prog_1_method_29_code 87 = .ok (.iconst 5, 1) := by decide +kernel
theorem d_X_then_88 : decode prog_1_method_29_code 88 = .ok (.iload_n 1, 1) := by decide +kernel
theorem d_X_then_89 : decode prog_1_method_29_code 89 = .ok (.iadd, 1) := by decide +kernel
theorem d_X_then_90 : decode prog_1_method_29_code 90 = .ok (.iaload, 1) := by decide +kernel
theorem d_X_then_91 : decode prog_1_method_29_code 91 = .ok (.ireturn, 1) := by decide +kernel
noncomputable def F_X_then : Sm := sSeq (sIf (cOr (cOr (cOr (cOr (cNot (o1 (fun x => decide (x ≠ 0)) (cI (mV 0 D_X_isGoer) [asV Value.ref (vR 0), asV Value.int (vI 1)]))) (o1 (fun x => decide (x < 0)) (vI 2))) (o2 (fun x y => decide (x > y)) (vI 2) (kI (ii 60)))) (o1 (fun x => decide (x < 0)) (vI 3))) (o2 (fun x y => decide (x > y)) (vI 3) (kI (ii 2)))) (sRet (asV Value.int (kI (ii (-1))))) (sSkip)) (sSeq (sDecl (asV Value.ref (cR (mV 6 D_Days_inDays) [asV Value.ref (gR 0 5 (vR 0)), asV Value.ref (gR 0 3 (vR 0)), asV Value.int (vI 2), asV Value.int (gI 2 2 (gR 0 1 (vR 0)))]))) (sSeq (sIf (o1 (fun x => decide (x = 0)) (vI 3)) (sRet (asV Value.int (aI 0 (gR 4 0 (vR 4)) (o2 (fun x y => x + y) (kI (ii 15)) (vI 1))))) (sSkip)) (sRet (asV Value.int (iX (o2 (fun x y => decide (x = y)) (vI 3) (kI (ii 1))) (aI 0 (gR 4 0 (vR 4)) (o2 (fun x y => x + y) (kI (ii 0)) (vI 1))) (aI 0 (gR 4 0 (vR 4)) (o2 (fun x y => x + y) (kI (ii 5)) (vI 1))))))))
theorem mf_X_then : Mf y_X_then prog_1_method_29_code 5 (some .int) 3 := ⟨tw_1220, tw_122, by decide +kernel⟩
noncomputable def D_X_then : Dn := runS [1, 1, 1, 1] F_X_then
theorem ok_X_then : MOK y_X_then prog_1_method_29_code 5 (some .int) 7 0 0 D_X_then := MOK.of (by decide) (by decide) (show SO Y_X_then [(0, 1), (1, 1), (2, 1), (3, 1)] [(0, 1), (1, 1), (2, 1), (3, 1), (4, 1)] 0 92 (([], 0), ([], 0)) F_X_then from
  (s_seq (sl1 := [(0, 1), (1, 1), (2, 1), (3, 1)]) (p1 := 29) (s_if (pt := 27) (pf := 29) (c_or (p1 := 22) (c_or (p1 := 18) (c_or (p1 := 12) (c_or (p1 := 8) (c_not (c_if_eqF (p1 := 5) (tg := 27) (e_cI (p1 := 2) (a_cons (ι := Value.ref) (k0 := 1) (p1 := 1) (fun _ => rfl) (e_aload_n (k0 := 0) d_X_then_0 rfl rfl) (a_cons (ι := Value.int) (k0 := 1) (p1 := 2) (fun _ => rfl) (e_iload_n (k0 := 1) d_X_then_1 rfl rfl) a_nil)) (k_virt ok_X_isGoer mf_X_isGoer ⟨tw_915, tw_24⟩ rfl tw_913 d_X_then_2 (by decide) (by decide) (by decide))) d_X_then_5 rfl)) (c_if_ltT (p1 := 9) (tg := 27) (e_iload_n (k0 := 2) d_X_then_8 rfl rfl) d_X_then_9 rfl)) (c_icmp_gtT (p1 := 13) (p2 := 15) (tg := 27) (e_iload_n (k0 := 2) d_X_then_12 rfl rfl) (e_bipush d_X_then_13 (by decide)) d_X_then_15 rfl)) (c_if_ltT (p1 := 19) (tg := 27) (e_iload_n (k0 := 3) d_X_then_18 rfl rfl) d_X_then_19 rfl)) (c_icmp_leF (p1 := 23) (p2 := 24) (tg := 29) (e_iload_n (k0 := 3) d_X_then_22 rfl rfl) (e_iconst d_X_then_23 (by decide)) d_X_then_24 rfl)) (s_ret (p1 := 28) (e_iconst d_X_then_27 (by decide)) rfl d_X_then_28) s_skip) (s_seq (sl1 := [(0, 1), (1, 1), (2, 1), (3, 1), (4, 1)]) (p1 := 50) (s_decl (p1 := 48) (e_cR (p1 := 45) (a_cons (ι := Value.ref) (k0 := 1) (p1 := 33) (fun _ => rfl) (e_gR (k0 := 5) (p1 := 30) cf_0 (e_aload_n (k0 := 0) d_X_then_29 rfl rfl) (by decide) tw_570 d_X_then_30) (a_cons (ι := Value.ref) (k0 := 1) (p1 := 37) (fun _ => rfl) (e_gR (k0 := 3) (p1 := 34) cf_0 (e_aload_n (k0 := 0) d_X_then_33 rfl rfl) (by decide) tw_568 d_X_then_34) (a_cons (ι := Value.int) (k0 := 1) (p1 := 38) (fun _ => rfl) (e_iload_n (k0 := 2) d_X_then_37 rfl rfl) (a_cons (ι := Value.int) (k0 := 1) (p1 := 45) (fun _ => rfl) (e_gI (k0 := 2) (p1 := 42) cf_2 (e_gR (k0 := 1) (p1 := 39) cf_0 (e_aload_n (k0 := 0) d_X_then_38 rfl rfl) (by decide) tw_566 d_X_then_39) (by decide) tw_216 d_X_then_42) a_nil)))) (k_virt ok_Days_inDays mf_Days_inDays ⟨tw_1222, tw_1223⟩ rfl tw_1221 d_X_then_45 (by decide) (by decide) (by decide))) (t_astore d_X_then_48 (by decide)) rfl) (s_seq (sl1 := [(0, 1), (1, 1), (2, 1), (3, 1), (4, 1)]) (p1 := 65) (s_if (pt := 54) (pf := 65) (c_if_neF (p1 := 51) (tg := 65) (e_iload_n (k0 := 3) d_X_then_50 rfl rfl) d_X_then_51 rfl) (s_ret (p1 := 64) (e_iald (p1 := 59) (p2 := 63) (e_gR (k0 := 0) (p1 := 56) cf_4 (e_aload (k0 := 4) d_X_then_54 rfl) (by decide) tw_320 d_X_then_56) (e_iadd (p1 := 61) (p2 := 62) (e_bipush d_X_then_59 (by decide)) (e_iload_n (k0 := 1) d_X_then_61 rfl rfl) d_X_then_62) d_X_then_63) rfl d_X_then_64) s_skip) (s_ret (p1 := 91) (e_ite (pt := 70) (p1 := 79) (pf := 82) (c_icmp_neF (p1 := 66) (p2 := 67) (tg := 82) (e_iload_n (k0 := 3) d_X_then_65 rfl rfl) (e_iconst d_X_then_66 (by decide)) d_X_then_67 rfl) (e_iald (p1 := 75) (p2 := 78) (e_gR (k0 := 0) (p1 := 72) cf_4 (e_aload (k0 := 4) d_X_then_70 rfl) (by decide) tw_320 d_X_then_72) (e_iadd (p1 := 76) (p2 := 77) (e_iconst d_X_then_75 (by decide)) (e_iload_n (k0 := 1) d_X_then_76 rfl rfl) d_X_then_77) d_X_then_78) d_X_then_79 rfl (e_iald (p1 := 87) (p2 := 90) (e_gR (k0 := 0) (p1 := 84) cf_4 (e_aload (k0 := 4) d_X_then_82 rfl) (by decide) tw_320 d_X_then_84) (e_iadd (p1 := 88) (p2 := 89) (e_iconst d_X_then_87 (by decide)) (e_iload_n (k0 := 1) d_X_then_88 rfl rfl) d_X_then_89) d_X_then_90)) rfl d_X_then_91)))))
/-! BlinkerCross.gainedIn(II)I -/
abbrev y_X_gainedIn : MethodName := ⟨"BlinkerCross", "gainedIn", "(II)I"⟩
abbrev Y_X_gainedIn : Yt := (prog_1_method_30_code, 3, "BlinkerCross", 7, (some .int), "gainedIn")
theorem d_X_gainedIn_0 : decode prog_1_method_30_code 0 = .ok (.aload_n 0, 1) := by decide +kernel
theorem d_X_gainedIn_1 : decode prog_1_method_30_code 1 = .ok (.iload_n 1, 1) := by decide +kernel
theorem d_X_gainedIn_2 : decode prog_1_method_30_code 2 = .ok (.invokevirtual 144, 3) := by decide +kernel
theorem d_X_gainedIn_5 : decode prog_1_method_30_code 5 = .ok (.ifCond .eq 13, 3) := by decide +kernel
theorem d_X_gainedIn_8 : decode prog_1_method_30_code 8 = .ok (.iload_n 2, 1) := by decide +kernel
theorem d_X_gainedIn_9 : decode prog_1_method_30_code 9 = .ok (.ifCond .lt 9, 3) := by decide +kernel
theorem d_X_gainedIn_12 : decode prog_1_method_30_code 12 = .ok (.iload_n 2, 1) := by decide +kernel
theorem d_X_gainedIn_13 : decode prog_1_method_30_code 13 = .ok (.bipush 60, 2) := by decide +kernel
theorem d_X_gainedIn_15 : decode prog_1_method_30_code 15 = .ok (.if_icmp .le 6, 3) := by decide +kernel
theorem d_X_gainedIn_18 : decode prog_1_method_30_code 18 = .ok (.ldc 177, 2) := by decide +kernel
theorem d_X_gainedIn_20 : decode prog_1_method_30_code 20 = .ok (.ireturn, 1) := by decide +kernel
theorem d_X_gainedIn_21 : decode prog_1_method_30_code 21 = .ok (.aload_n 0, 1) := by decide +kernel
theorem d_X_gainedIn_22 : decode prog_1_method_30_code 22 = .ok (.getfield 53, 3) := by decide +kernel
theorem d_X_gainedIn_25 : decode prog_1_method_30_code 25 = .ok (.aload_n 0, 1) := by decide +kernel
theorem d_X_gainedIn_26 : decode prog_1_method_30_code 26 = .ok (.getfield 37, 3) := by decide +kernel
theorem d_X_gainedIn_29 : decode prog_1_method_30_code 29 = .ok (.iload_n 2, 1) := by decide +kernel
theorem d_X_gainedIn_30 : decode prog_1_method_30_code 30 = .ok (.aload_n 0, 1) := by decide +kernel
theorem d_X_gainedIn_31 : decode prog_1_method_30_code 31 = .ok (.getfield 19, 3) := by decide +kernel
theorem d_X_gainedIn_34 : decode prog_1_method_30_code 34 = .ok (.getfield 192, 3) := by decide +kernel
theorem d_X_gainedIn_37 : decode prog_1_method_30_code 37 = .ok (.invokevirtual 268, 3) := by decide +kernel
theorem d_X_gainedIn_40 : decode prog_1_method_30_code 40 = .ok (.getfield 151, 3) := by decide +kernel
theorem d_X_gainedIn_43 : decode prog_1_method_30_code 43 = .ok (.bipush 20, 2) := by decide +kernel
theorem d_X_gainedIn_45 : decode prog_1_method_30_code 45 = .ok (.iload_n 1, 1) := by decide +kernel
theorem d_X_gainedIn_46 : decode prog_1_method_30_code 46 = .ok (.iadd, 1) := by decide +kernel
theorem d_X_gainedIn_47 : decode prog_1_method_30_code 47 = .ok (.iaload, 1) := by decide +kernel
theorem d_X_gainedIn_48 : decode prog_1_method_30_code 48 = .ok (.ireturn, 1) := by decide +kernel
noncomputable def F_X_gainedIn : Sm := sSeq (sIf (cOr (cOr (cNot (o1 (fun x => decide (x ≠ 0)) (cI (mV 0 D_X_isGoer) [asV Value.ref (vR 0), asV Value.int (vI 1)]))) (o1 (fun x => decide (x < 0)) (vI 2))) (o2 (fun x y => decide (x > y)) (vI 2) (kI (ii 60)))) (sRet (asV Value.int (kI (ii (-100000))))) (sSkip)) (sRet (asV Value.int (aI 0 (gR 4 0 (cR (mV 6 D_Days_inDays) [asV Value.ref (gR 0 5 (vR 0)), asV Value.ref (gR 0 3 (vR 0)), asV Value.int (vI 2), asV Value.int (gI 2 2 (gR 0 1 (vR 0)))])) (o2 (fun x y => x + y) (kI (ii 20)) (vI 1)))))
theorem mf_X_gainedIn : Mf y_X_gainedIn prog_1_method_30_code 3 (some .int) 2 := ⟨tw_1230, tw_122, by decide +kernel⟩
noncomputable def D_X_gainedIn : Dn := runS [1, 1, 1] F_X_gainedIn
theorem ok_X_gainedIn : MOK y_X_gainedIn prog_1_method_30_code 3 (some .int) 7 0 0 D_X_gainedIn := MOK.of (by decide) (by decide) (show SO Y_X_gainedIn [(0, 1), (1, 1), (2, 1)] [(0, 1), (1, 1), (2, 1)] 0 49 (([], 0), ([], 0)) F_X_gainedIn from
  (s_seq (sl1 := [(0, 1), (1, 1), (2, 1)]) (p1 := 21) (s_if (pt := 18) (pf := 21) (c_or (p1 := 12) (c_or (p1 := 8) (c_not (c_if_eqF (p1 := 5) (tg := 18) (e_cI (p1 := 2) (a_cons (ι := Value.ref) (k0 := 1) (p1 := 1) (fun _ => rfl) (e_aload_n (k0 := 0) d_X_gainedIn_0 rfl rfl) (a_cons (ι := Value.int) (k0 := 1) (p1 := 2) (fun _ => rfl) (e_iload_n (k0 := 1) d_X_gainedIn_1 rfl rfl) a_nil)) (k_virt ok_X_isGoer mf_X_isGoer ⟨tw_915, tw_24⟩ rfl tw_913 d_X_gainedIn_2 (by decide) (by decide) (by decide))) d_X_gainedIn_5 rfl)) (c_if_ltT (p1 := 9) (tg := 18) (e_iload_n (k0 := 2) d_X_gainedIn_8 rfl rfl) d_X_gainedIn_9 rfl)) (c_icmp_leF (p1 := 13) (p2 := 15) (tg := 21) (e_iload_n (k0 := 2) d_X_gainedIn_12 rfl rfl) (e_bipush d_X_gainedIn_13 (by decide)) d_X_gainedIn_15 rfl)) (s_ret (p1 := 20) (e_ldc d_X_gainedIn_18 tw_966) rfl d_X_gainedIn_20) s_skip) (s_ret (p1 := 48) (e_iald (p1 := 43) (p2 := 47) (e_gR (k0 := 0) (p1 := 40) cf_4 (e_cR (p1 := 37) (a_cons (ι := Value.ref) (k0 := 1) (p1 := 25) (fun _ => rfl) (e_gR (k0 := 5) (p1 := 22) cf_0 (e_aload_n (k0 := 0) d_X_gainedIn_21 rfl rfl) (by decide) tw_570 d_X_gainedIn_22) (a_cons (ι := Value.ref) (k0 := 1) (p1 := 29) (fun _ => rfl) (e_gR (k0 := 3) (p1 := 26) cf_0 (e_aload_n (k0 := 0) d_X_gainedIn_25 rfl rfl) (by decide) tw_568 d_X_gainedIn_26) (a_cons (ι := Value.int) (k0 := 1) (p1 := 30) (fun _ => rfl) (e_iload_n (k0 := 2) d_X_gainedIn_29 rfl rfl) (a_cons (ι := Value.int) (k0 := 1) (p1 := 37) (fun _ => rfl) (e_gI (k0 := 2) (p1 := 34) cf_2 (e_gR (k0 := 1) (p1 := 31) cf_0 (e_aload_n (k0 := 0) d_X_gainedIn_30 rfl rfl) (by decide) tw_566 d_X_gainedIn_31) (by decide) tw_216 d_X_gainedIn_34) a_nil)))) (k_virt ok_Days_inDays mf_Days_inDays ⟨tw_1222, tw_1223⟩ rfl tw_1221 d_X_gainedIn_37 (by decide) (by decide) (by decide))) (by decide) tw_320 d_X_gainedIn_40) (e_iadd (p1 := 45) (p2 := 46) (e_bipush d_X_gainedIn_43 (by decide)) (e_iload_n (k0 := 1) d_X_gainedIn_45 rfl rfl) d_X_gainedIn_46) d_X_gainedIn_47) rfl d_X_gainedIn_48)))
/-! BlinkerCross.year(IIII)I -/
abbrev y_X_year : MethodName := ⟨"BlinkerCross", "year", "(IIII)I"⟩
abbrev Y_X_year : Yt := (prog_1_method_31_code, 7, "BlinkerCross", 7, (some .int), "year")
theorem d_X_year_0 : decode prog_1_method_31_code 0 = .ok (.aload_n 0, 1) := by decide +kernel
theorem d_X_year_1 : decode prog_1_method_31_code 1 = .ok (.iload_n 1, 1) := by decide +kernel
theorem d_X_year_2 : decode prog_1_method_31_code 2 = .ok (.invokevirtual 144, 3) := by decide +kernel
theorem d_X_year_5 : decode prog_1_method_31_code 5 = .ok (.ifCond .eq 34, 3) := by decide +kernel
theorem d_X_year_8 : decode prog_1_method_31_code 8 = .ok (.aload_n 0, 1) := by decide +kernel
theorem d_X_year_9 : decode prog_1_method_31_code 9 = .ok (.iload_n 2, 1) := by decide +kernel
theorem d_X_year_10 : decode prog_1_method_31_code 10 = .ok (.invokevirtual 126, 3) := by decide +kernel
theorem d_X_year_13 : decode prog_1_method_31_code 13 = .ok (.ifCond .eq 26, 3) := by decide +kernel
theorem d_X_year_16 : decode prog_1_method_31_code 16 = .ok (.iload_n 3, 1) := by decide +kernel
theorem d_X_year_17 : decode prog_1_method_31_code 17 = .ok (.ifCond .lt 22, 3) := by decide +kernel
theorem d_X_year_20 : decode prog_1_method_31_code 20 = .ok (.iload_n 3, 1) := by decide +kernel
theorem d_X_year_21 : decode prog_1_method_31_code 21 = .ok (.bipush 60, 2) := by decide +kernel
theorem d_X_year_23 : decode prog_1_method_31_code 23 = .ok (.if_icmp .gt 16, 3) := by decide +kernel
theorem d_X_year_26 : decode prog_1_method_31_code 26 = .ok (.iload 4, 2) := by decide +kernel
theorem d_X_year_28 : decode prog_1_method_31_code 28 = .ok (.iconst 1, 1) := by decide +kernel
theorem d_X_year_29 : decode prog_1_method_31_code 29 = .ok (.if_icmp .lt 10, 3) := by decide +kernel
theorem d_X_year_32 : decode prog_1_method_31_code 32 = .ok (.iload 4, 2) := by decide +kernel
theorem d_X_year_34 : decode prog_1_method_31_code 34 = .ok (.bipush 20, 2) := by decide +kernel
theorem d_X_year_36 : decode prog_1_method_31_code 36 = .ok (.if_icmp .le 5, 3) := by decide +kernel
theorem d_X_year_39 : decode prog_1_method_31_code 39 = .ok (.iconst (-1), 1) := by decide +kernel
theorem d_X_year_40 : decode prog_1_method_31_code 40 = .ok (.ireturn, 1) := by decide +kernel
theorem d_X_year_41 : decode prog_1_method_31_code 41 = .ok (.iconst 0, 1) := by decide +kernel
theorem d_X_year_42 : decode prog_1_method_31_code 42 = .ok (.istore 5, 2) := by decide +kernel
theorem d_X_year_44 : decode prog_1_method_31_code 44 = .ok (.iconst 0, 1) := by decide +kernel
theorem d_X_year_45 : decode prog_1_method_31_code 45 = .ok (.istore 6, 2) := by decide +kernel
theorem d_X_year_47 : decode prog_1_method_31_code 47 = .ok (.iload 6, 2) := by decide +kernel
theorem d_X_year_49 : decode prog_1_method_31_code 49 = .ok (.iload 4, 2) := by decide +kernel
theorem d_X_year_51 : decode prog_1_method_31_code 51 = .ok (.if_icmp .ge 43, 3) := by decide +kernel
theorem d_X_year_54 : decode prog_1_method_31_code 54 = .ok (.aload_n 0, 1) := by decide +kernel
theorem d_X_year_55 : decode prog_1_method_31_code 55 = .ok (.getfield 53, 3) := by decide +kernel
theorem d_X_year_58 : decode prog_1_method_31_code 58 = .ok (.aload_n 0, 1) := by decide +kernel
theorem d_X_year_59 : decode prog_1_method_31_code 59 = .ok (.getfield 37, 3) := by decide +kernel
theorem d_X_year_62 : decode prog_1_method_31_code 62 = .ok (.iload_n 3, 1) := by decide +kernel
theorem d_X_year_63 : decode prog_1_method_31_code 63 = .ok (.aload_n 0, 1) := by decide +kernel
theorem d_X_year_64 : decode prog_1_method_31_code 64 = .ok (.getfield 19, 3) := by decide +kernel
theorem d_X_year_67 : decode prog_1_method_31_code 67 = .ok (.getfield 192, 3) := by decide +kernel
theorem d_X_year_70 : decode prog_1_method_31_code 70 = .ok (.iload 6, 2) := by decide +kernel
theorem d_X_year_72 : decode prog_1_method_31_code 72 = .ok (.iadd, 1) := by decide +kernel
theorem d_X_year_73 : decode prog_1_method_31_code 73 = .ok (.invokevirtual 268, 3) := by decide +kernel
theorem d_X_year_76 : decode prog_1_method_31_code 76 = .ok (.getfield 154, 3) := by decide +kernel
theorem d_X_year_79 : decode prog_1_method_31_code 79 = .ok (.iload_n 1, 1) := by decide +kernel
theorem d_X_year_80 : decode prog_1_method_31_code 80 = .ok (.iaload, 1) := by decide +kernel
theorem d_X_year_81 : decode prog_1_method_31_code 81 = .ok (.iload_n 2, 1) := by decide +kernel
theorem d_X_year_82 : decode prog_1_method_31_code 82 = .ok (.if_icmp .ne 6, 3) := by decide +kernel
theorem d_X_year_85 : decode prog_1_method_31_code 85 = .ok (.iinc 5 1, 3) := by decide +kernel
theorem d_X_year_88 : decode prog_1_method_31_code 88 = .ok (.iinc 6 1, 3) := by decide +kernel
theorem d_X_year_91 : decode prog_1_method_31_code 91 = .ok (.goto (-44), 3) := by decide +kernel
theorem d_X_year_94 : decode prog_1_method_31_code 94 = .ok (.iload 5, 2) := by decide +kernel
theorem d_X_year_96 : decode prog_1_method_31_code 96 = .ok (.ireturn, 1) := by decide +kernel
noncomputable def Lc_X_year_1 : Xp Bool := o2 (fun x y => decide (x < y)) (vI 6) (vI 4)
noncomputable def Lb_X_year_1 : Sm := sIf (o2 (fun x y => decide (x = y)) (aI 0 (gR 4 1 (cR (mV 6 D_Days_inDays) [asV Value.ref (gR 0 5 (vR 0)), asV Value.ref (gR 0 3 (vR 0)), asV Value.int (vI 3), asV Value.int (o2 (fun x y => x + y) (gI 2 2 (gR 0 1 (vR 0))) (vI 6))])) (vI 1)) (vI 2)) (sInc 5 (ii 1)) (sSkip)
noncomputable def Lu_X_year_1 : Sm := sInc 6 (ii 1)
noncomputable def F_X_year : Sm := sSeq (sIf (cOr (cOr (cOr (cOr (cOr (cNot (o1 (fun x => decide (x ≠ 0)) (cI (mV 0 D_X_isGoer) [asV Value.ref (vR 0), asV Value.int (vI 1)]))) (cNot (o1 (fun x => decide (x ≠ 0)) (cI (mV 0 D_X_isRoad) [asV Value.ref (vR 0), asV Value.int (vI 2)])))) (o1 (fun x => decide (x < 0)) (vI 3))) (o2 (fun x y => decide (x > y)) (vI 3) (kI (ii 60)))) (o2 (fun x y => decide (x < y)) (vI 4) (kI (ii 1)))) (o2 (fun x y => decide (x > y)) (vI 4) (kI (ii 20)))) (sRet (asV Value.int (kI (ii (-1))))) (sSkip)) (sSeq (sDecl (asV Value.int (kI (ii 0)))) (sSeq (sBlk 6 (sSeq (sDecl (asV Value.int (kI (ii 0)))) (sWh (Lc_X_year_1) (Lb_X_year_1) Lu_X_year_1))) (sRet (asV Value.int (vI 5)))))
theorem mf_X_year : Mf y_X_year prog_1_method_31_code 7 (some .int) 4 := ⟨tw_1234, tw_122, by decide +kernel⟩
noncomputable def D_X_year : Dn := runS [1, 1, 1, 1, 1] F_X_year
theorem ok_X_year : MOK y_X_year prog_1_method_31_code 7 (some .int) 7 0 0 D_X_year := MOK.of (by decide) (by decide) (show SO Y_X_year [(0, 1), (1, 1), (2, 1), (3, 1), (4, 1)] [(0, 1), (1, 1), (2, 1), (3, 1), (4, 1), (5, 1)] 0 97 (([], 0), ([], 0)) F_X_year from
  (s_seq (sl1 := [(0, 1), (1, 1), (2, 1), (3, 1), (4, 1)]) (p1 := 41) (s_if (pt := 39) (pf := 41) (c_or (p1 := 32) (c_or (p1 := 26) (c_or (p1 := 20) (c_or (p1 := 16) (c_or (p1 := 8) (c_not (c_if_eqF (p1 := 5) (tg := 39) (e_cI (p1 := 2) (a_cons (ι := Value.ref) (k0 := 1) (p1 := 1) (fun _ => rfl) (e_aload_n (k0 := 0) d_X_year_0 rfl rfl) (a_cons (ι := Value.int) (k0 := 1) (p1 := 2) (fun _ => rfl) (e_iload_n (k0 := 1) d_X_year_1 rfl rfl) a_nil)) (k_virt ok_X_isGoer mf_X_isGoer ⟨tw_915, tw_24⟩ rfl tw_913 d_X_year_2 (by decide) (by decide) (by decide))) d_X_year_5 rfl)) (c_not (c_if_eqF (p1 := 13) (tg := 39) (e_cI (p1 := 10) (a_cons (ι := Value.ref) (k0 := 1) (p1 := 9) (fun _ => rfl) (e_aload_n (k0 := 0) d_X_year_8 rfl rfl) (a_cons (ι := Value.int) (k0 := 1) (p1 := 10) (fun _ => rfl) (e_iload_n (k0 := 2) d_X_year_9 rfl rfl) a_nil)) (k_virt ok_X_isRoad mf_X_isRoad ⟨tw_890, tw_23⟩ rfl tw_888 d_X_year_10 (by decide) (by decide) (by decide))) d_X_year_13 rfl))) (c_if_ltT (p1 := 17) (tg := 39) (e_iload_n (k0 := 3) d_X_year_16 rfl rfl) d_X_year_17 rfl)) (c_icmp_gtT (p1 := 21) (p2 := 23) (tg := 39) (e_iload_n (k0 := 3) d_X_year_20 rfl rfl) (e_bipush d_X_year_21 (by decide)) d_X_year_23 rfl)) (c_icmp_ltT (p1 := 28) (p2 := 29) (tg := 39) (e_iload (k0 := 4) d_X_year_26 rfl) (e_iconst d_X_year_28 (by decide)) d_X_year_29 rfl)) (c_icmp_leF (p1 := 34) (p2 := 36) (tg := 41) (e_iload (k0 := 4) d_X_year_32 rfl) (e_bipush d_X_year_34 (by decide)) d_X_year_36 rfl)) (s_ret (p1 := 40) (e_iconst d_X_year_39 (by decide)) rfl d_X_year_40) s_skip) (s_seq (sl1 := [(0, 1), (1, 1), (2, 1), (3, 1), (4, 1), (5, 1)]) (p1 := 44) (s_decl (p1 := 42) (e_iconst d_X_year_41 (by decide)) (t_istore d_X_year_42 (by decide)) rfl) (s_seq (sl1 := [(0, 1), (1, 1), (2, 1), (3, 1), (4, 1), (5, 1)]) (p1 := 94) (s_blk (sl1 := [(0, 1), (1, 1), (2, 1), (3, 1), (4, 1), (5, 1), (6, 1)]) (s_seq (sl1 := [(0, 1), (1, 1), (2, 1), (3, 1), (4, 1), (5, 1), (6, 1)]) (p1 := 47) (s_decl (p1 := 45) (e_iconst d_X_year_44 (by decide)) (t_istore d_X_year_45 (by decide)) rfl) (s_for (pt := 54) (pu := 88) (pf := 94) (pg := 0) (c_icmp_geF (p1 := 49) (p2 := 51) (tg := 94) (e_iload (k0 := 6) d_X_year_47 rfl) (e_iload (k0 := 4) d_X_year_49 rfl) d_X_year_51 rfl) (s_if (pt := 85) (pf := 88) (c_icmp_neF (p1 := 81) (p2 := 82) (tg := 88) (e_iald (p1 := 79) (p2 := 80) (e_gR (k0 := 1) (p1 := 76) cf_4 (e_cR (p1 := 73) (a_cons (ι := Value.ref) (k0 := 1) (p1 := 58) (fun _ => rfl) (e_gR (k0 := 5) (p1 := 55) cf_0 (e_aload_n (k0 := 0) d_X_year_54 rfl rfl) (by decide) tw_570 d_X_year_55) (a_cons (ι := Value.ref) (k0 := 1) (p1 := 62) (fun _ => rfl) (e_gR (k0 := 3) (p1 := 59) cf_0 (e_aload_n (k0 := 0) d_X_year_58 rfl rfl) (by decide) tw_568 d_X_year_59) (a_cons (ι := Value.int) (k0 := 1) (p1 := 63) (fun _ => rfl) (e_iload_n (k0 := 3) d_X_year_62 rfl rfl) (a_cons (ι := Value.int) (k0 := 1) (p1 := 73) (fun _ => rfl) (e_iadd (p1 := 70) (p2 := 72) (e_gI (k0 := 2) (p1 := 67) cf_2 (e_gR (k0 := 1) (p1 := 64) cf_0 (e_aload_n (k0 := 0) d_X_year_63 rfl rfl) (by decide) tw_566 d_X_year_64) (by decide) tw_216 d_X_year_67) (e_iload (k0 := 6) d_X_year_70 rfl) d_X_year_72) a_nil)))) (k_virt ok_Days_inDays mf_Days_inDays ⟨tw_1222, tw_1223⟩ rfl tw_1221 d_X_year_73 (by decide) (by decide) (by decide))) (by decide) tw_326 d_X_year_76) (e_iload_n (k0 := 1) d_X_year_79 rfl rfl) d_X_year_80) (e_iload_n (k0 := 2) d_X_year_81 rfl rfl) d_X_year_82 rfl) (s_inc (k0 := 5) d_X_year_85 rfl rfl (Nat.le_of_ble_eq_true rfl) rfl) s_skip) (s_goto (p1 := 91) (s_inc (k0 := 6) d_X_year_88 rfl rfl (Nat.le_of_ble_eq_true rfl) rfl) d_X_year_91 rfl))) rfl) (s_ret (p1 := 96) (e_iload (k0 := 5) d_X_year_94 rfl) rfl d_X_year_96)))))
/-! BlinkerCross.tell(IIZ)I -/
abbrev y_X_tell : MethodName := ⟨"BlinkerCross", "tell", "(IIZ)I"⟩
abbrev Y_X_tell : Yt := (prog_1_method_32_code, 4, "BlinkerCross", 1, (some .int), "tell")
theorem d_X_tell_0 : decode prog_1_method_32_code 0 = .ok (.aload_n 0, 1) := by decide +kernel
theorem d_X_tell_1 : decode prog_1_method_32_code 1 = .ok (.getfield 85, 3) := by decide +kernel
theorem d_X_tell_4 : decode prog_1_method_32_code 4 = .ok (.getfield 120, 3) := by decide +kernel
theorem d_X_tell_7 : decode prog_1_method_32_code 7 = .ok (.bipush 20, 2) := by decide +kernel
theorem d_X_tell_9 : decode prog_1_method_32_code 9 = .ok (.if_icmp .ge 22, 3) := by decide +kernel
theorem d_X_tell_12 : decode prog_1_method_32_code 12 = .ok (.iload_n 1, 1) := by decide +kernel
theorem d_X_tell_13 : decode prog_1_method_32_code 13 = .ok (.ifCond .lt 18, 3) := by decide +kernel
theorem d_X_tell_16 : decode prog_1_method_32_code 16 = .ok (.iload_n 1, 1) := by decide +kernel
theorem d_X_tell_17 : decode prog_1_method_32_code 17 = .ok (.iconst 5, 1) := by decide +kernel
theorem d_X_tell_18 : decode prog_1_method_32_code 18 = .ok (.if_icmp .ge 13, 3) := by decide +kernel
theorem d_X_tell_21 : decode prog_1_method_32_code 21 = .ok (.iload_n 2, 1) := by decide +kernel
theorem d_X_tell_22 : decode prog_1_method_32_code 22 = .ok (.ifCond .lt 9, 3) := by decide +kernel
theorem d_X_tell_25 : decode prog_1_method_32_code 25 = .ok (.iload_n 2, 1) := by decide +kernel
theorem d_X_tell_26 : decode prog_1_method_32_code 26 = .ok (.bipush 99, 2) := by decide +kernel
theorem d_X_tell_28 : decode prog_1_method_32_code 28 = .ok (.if_icmp .le 5, 3) := by decide +kernel
theorem d_X_tell_31 : decode prog_1_method_32_code 31 = .ok (.iconst (-1), 1) := by decide +kernel
theorem d_X_tell_32 : decode prog_1_method_32_code 32 = .ok (.ireturn, 1) := by decide +kernel
theorem d_X_tell_33 : decode prog_1_method_32_code 33 = .ok (.aload_n 0, 1) := by decide +kernel
theorem d_X_tell_34 : decode prog_1_method_32_code 34 = .ok (.getfield 85, 3) := by decide +kernel
theorem d_X_tell_37 : decode prog_1_method_32_code 37 = .ok (.iload_n 1, 1) := by decide +kernel
theorem d_X_tell_38 : decode prog_1_method_32_code 38 = .ok (.iload_n 2, 1) := by decide +kernel
theorem d_X_tell_39 : decode prog_1_method_32_code 39 = .ok (.iload_n 3, 1) := by decide +kernel
theorem d_X_tell_40 : decode prog_1_method_32_code 40 = .ok (.invokevirtual 272, 3) := by decide +kernel
theorem d_X_tell_43 : decode prog_1_method_32_code 43 = .ok (.ireturn, 1) := by decide +kernel
noncomputable def F_X_tell : Sm := sSeq (sIf (cOr (cOr (cOr (cOr (o2 (fun x y => decide (x ≥ y)) (gI 10 0 (gR 0 9 (vR 0))) (kI (ii 20))) (o1 (fun x => decide (x < 0)) (vI 1))) (o2 (fun x y => decide (x ≥ y)) (vI 1) (kI (ii 5)))) (o1 (fun x => decide (x < 0)) (vI 2))) (o2 (fun x y => decide (x > y)) (vI 2) (kI (ii 99)))) (sRet (asV Value.int (kI (ii (-1))))) (sSkip)) (sRet (asV Value.int (cI (mV 10 D_Told_add) [asV Value.ref (gR 0 9 (vR 0)), asV Value.int (vI 1), asV Value.int (vI 2), asV Value.int (vI 3)])))
theorem mf_X_tell : Mf y_X_tell prog_1_method_32_code 4 (some .int) 3 := ⟨tw_1238, tw_122, by decide +kernel⟩
noncomputable def D_X_tell : Dn := runS [1, 1, 1, 1] F_X_tell
theorem ok_X_tell : MOK y_X_tell prog_1_method_32_code 4 (some .int) 1 0 0 D_X_tell := MOK.of (by decide) (by decide) (show SO Y_X_tell [(0, 1), (1, 1), (2, 1), (3, 1)] [(0, 1), (1, 1), (2, 1), (3, 1)] 0 44 (([], 0), ([], 0)) F_X_tell from
  (s_seq (sl1 := [(0, 1), (1, 1), (2, 1), (3, 1)]) (p1 := 33) (s_if (pt := 31) (pf := 33) (c_or (p1 := 25) (c_or (p1 := 21) (c_or (p1 := 16) (c_or (p1 := 12) (c_icmp_geT (p1 := 7) (p2 := 9) (tg := 31) (e_gI (k0 := 0) (p1 := 4) cf_10 (e_gR (k0 := 9) (p1 := 1) cf_0 (e_aload_n (k0 := 0) d_X_tell_0 rfl rfl) (by decide) tw_574 d_X_tell_1) (by decide) tw_518 d_X_tell_4) (e_bipush d_X_tell_7 (by decide)) d_X_tell_9 rfl) (c_if_ltT (p1 := 13) (tg := 31) (e_iload_n (k0 := 1) d_X_tell_12 rfl rfl) d_X_tell_13 rfl)) (c_icmp_geT (p1 := 17) (p2 := 18) (tg := 31) (e_iload_n (k0 := 1) d_X_tell_16 rfl rfl) (e_iconst d_X_tell_17 (by decide)) d_X_tell_18 rfl)) (c_if_ltT (p1 := 22) (tg := 31) (e_iload_n (k0 := 2) d_X_tell_21 rfl rfl) d_X_tell_22 rfl)) (c_icmp_leF (p1 := 26) (p2 := 28) (tg := 33) (e_iload_n (k0 := 2) d_X_tell_25 rfl rfl) (e_bipush d_X_tell_26 (by decide)) d_X_tell_28 rfl)) (s_ret (p1 := 32) (e_iconst d_X_tell_31 (by decide)) rfl d_X_tell_32) s_skip) (s_ret (p1 := 43) (e_cI (p1 := 40) (a_cons (ι := Value.ref) (k0 := 1) (p1 := 37) (fun _ => rfl) (e_gR (k0 := 9) (p1 := 34) cf_0 (e_aload_n (k0 := 0) d_X_tell_33 rfl rfl) (by decide) tw_574 d_X_tell_34) (a_cons (ι := Value.int) (k0 := 1) (p1 := 38) (fun _ => rfl) (e_iload_n (k0 := 1) d_X_tell_37 rfl rfl) (a_cons (ι := Value.int) (k0 := 1) (p1 := 39) (fun _ => rfl) (e_iload_n (k0 := 2) d_X_tell_38 rfl rfl) (a_cons (ι := Value.int) (k0 := 1) (p1 := 40) (fun _ => rfl) (e_iload_n (k0 := 3) d_X_tell_39 rfl rfl) a_nil)))) (k_virt ok_Told_add mf_Told_add ⟨tw_1240, tw_1241⟩ rfl tw_1239 d_X_tell_40 (by decide) (by decide) (by decide))) rfl d_X_tell_43)))
/-! BlinkerCross.forget()I -/
abbrev y_X_forget : MethodName := ⟨"BlinkerCross", "forget", "()I"⟩
abbrev Y_X_forget : Yt := (prog_1_method_33_code, 2, "BlinkerCross", 0, (some .int), "forget")
theorem d_X_forget_0 : decode prog_1_method_33_code 0 = .ok (.aload_n 0, 1) := by decide +kernel
theorem d_X_forget_1 : decode prog_1_method_33_code 1 = .ok (.getfield 85, 3) := by decide +kernel
theorem d_X_forget_4 : decode prog_1_method_33_code 4 = .ok (.getfield 120, 3) := by decide +kernel
theorem d_X_forget_7 : decode prog_1_method_33_code 7 = .ok (.istore_n 1, 1) := by decide +kernel
theorem d_X_forget_8 : decode prog_1_method_33_code 8 = .ok (.aload_n 0, 1) := by decide +kernel
theorem d_X_forget_9 : decode prog_1_method_33_code 9 = .ok (.getfield 85, 3) := by decide +kernel
theorem d_X_forget_12 : decode prog_1_method_33_code 12 = .ok (.iconst 0, 1) := by decide +kernel
theorem d_X_forget_13 : decode prog_1_method_33_code 13 = .ok (.putfield 120, 3) := by decide +kernel
theorem d_X_forget_16 : decode prog_1_method_33_code 16 = .ok (.iload_n 1, 1) := by decide +kernel
theorem d_X_forget_17 : decode prog_1_method_33_code 17 = .ok (.ireturn, 1) := by decide +kernel
noncomputable def F_X_forget : Sm := sSeq (sDecl (asV Value.int (gI 10 0 (gR 0 9 (vR 0))))) (sSeq (sPut 10 0 (gR 0 9 (vR 0)) (asV Value.int (kI (ii 0)))) (sRet (asV Value.int (vI 1))))
theorem mf_X_forget : Mf y_X_forget prog_1_method_33_code 2 (some .int) 0 := ⟨tw_1246, tw_122, by decide +kernel⟩
noncomputable def D_X_forget : Dn := runS [1] F_X_forget
theorem ok_X_forget : MOK y_X_forget prog_1_method_33_code 2 (some .int) 0 0 0 D_X_forget := MOK.of (by decide) (by decide) (show SO Y_X_forget [(0, 1)] [(0, 1), (1, 1)] 0 18 (([], 0), ([], 0)) F_X_forget from
  (s_seq (sl1 := [(0, 1), (1, 1)]) (p1 := 8) (s_decl (p1 := 7) (e_gI (k0 := 0) (p1 := 4) cf_10 (e_gR (k0 := 9) (p1 := 1) cf_0 (e_aload_n (k0 := 0) d_X_forget_0 rfl rfl) (by decide) tw_574 d_X_forget_1) (by decide) tw_518 d_X_forget_4) (t_istore_n d_X_forget_7 rfl (by decide)) rfl) (s_seq (sl1 := [(0, 1), (1, 1)]) (p1 := 16) (s_put (k0 := 0) (p1 := 12) (p2 := 13) cf_10 (e_gR (k0 := 9) (p1 := 9) cf_0 (e_aload_n (k0 := 0) d_X_forget_8 rfl rfl) (by decide) tw_574 d_X_forget_9) (e_iconst d_X_forget_12 (by decide)) (by decide) fk_i tw_518 (Or.inl rfl) d_X_forget_13) (s_ret (p1 := 17) (e_iload_n (k0 := 1) d_X_forget_16 rfl rfl) rfl d_X_forget_17))))
/-! BlinkerCross.who(II)I -/
abbrev y_X_who : MethodName := ⟨"BlinkerCross", "who", "(II)I"⟩
abbrev Y_X_who : Yt := (prog_1_method_34_code, 4, "BlinkerCross", 6, (some .int), "who")
theorem d_X_who_0 : decode prog_1_method_34_code 0 = .ok (.iload_n 1, 1) := by decide +kernel
theorem d_X_who_1 : decode prog_1_method_34_code 1 = .ok (.ifCond .lt 23, 3) := by decide +kernel
theorem d_X_who_4 : decode prog_1_method_34_code 4 = .ok (.iload_n 1, 1) := by decide +kernel
theorem d_X_who_5 : decode prog_1_method_34_code 5 = .ok (.aload_n 0, 1) := by decide +kernel
theorem d_X_who_6 : decode prog_1_method_34_code 6 = .ok (.getfield 85, 3) := by decide +kernel
theorem d_X_who_9 : decode prog_1_method_34_code 9 = .ok (.getfield 120, 3) := by decide +kernel
theorem d_X_who_12 : decode prog_1_method_34_code 12 = .ok (.if_icmp .gt 12, 3) := by decide +kernel
theorem d_X_who_15 : decode prog_1_method_34_code 15 = .ok (.iload_n 2, 1) := by decide +kernel
theorem d_X_who_16 : decode prog_1_method_34_code 16 = .ok (.ifCond .lt 8, 3) := by decide +kernel
theorem d_X_who_19 : decode prog_1_method_34_code 19 = .ok (.iload_n 2, 1) := by decide +kernel
theorem d_X_who_20 : decode prog_1_method_34_code 20 = .ok (.iconst 1, 1) := by decide +kernel
theorem d_X_who_21 : decode prog_1_method_34_code 21 = .ok (.if_icmp .le 5, 3) := by decide +kernel
theorem d_X_who_24 : decode prog_1_method_34_code 24 = .ok (.iconst (-1), 1) := by decide +kernel
theorem d_X_who_25 : decode prog_1_method_34_code 25 = .ok (.ireturn, 1) := by decide +kernel
theorem d_X_who_26 : decode prog_1_method_34_code 26 = .ok (.aload_n 0, 1) := by decide +kernel
theorem d_X_who_27 : decode prog_1_method_34_code 27 = .ok (.getfield 85, 3) := by decide +kernel
theorem d_X_who_30 : decode prog_1_method_34_code 30 = .ok (.iload_n 1, 1) := by decide +kernel
theorem d_X_who_31 : decode prog_1_method_34_code 31 = .ok (.invokevirtual 276, 3) := by decide +kernel
theorem d_X_who_34 : decode prog_1_method_34_code 34 = .ok (.istore_n 3, 1) := by decide +kernel
theorem d_X_who_35 : decode prog_1_method_34_code 35 = .ok (.iload_n 2, 1) := by decide +kernel
theorem d_X_who_36 : decode prog_1_method_34_code 36 = .ok (.ifCond .ne 10, 3) := by decide +kernel
theorem d_X_who_39 : decode prog_1_method_34_code 39 = .ok (.iload_n 3, 1) := by decide +kernel
theorem d_X_who_40 : decode prog_1_method_34_code 40 = .ok (.invokestatic 279, 3) := by decide +kernel
theorem d_X_who_43 : decode prog_1_method_34_code 43 = .ok (.goto 4, 3) := by decide +kernel
theorem d_X_who_46 : decode prog_1_method_34_code 46 = .ok (.iload_n 3, 1) := by decide +kernel
theorem d_X_who_47 : decode prog_1_method_34_code 47 = .ok (.ireturn, 1) := by decide +kernel
noncomputable def F_X_who : Sm := sSeq (sIf (cOr (cOr (cOr (o1 (fun x => decide (x < 0)) (vI 1)) (o2 (fun x y => decide (x > y)) (vI 1) (gI 10 0 (gR 0 9 (vR 0))))) (o1 (fun x => decide (x < 0)) (vI 2))) (o2 (fun x y => decide (x > y)) (vI 2) (kI (ii 1)))) (sRet (asV Value.int (kI (ii (-1))))) (sSkip)) (sSeq (sDecl (asV Value.int (cI (mV 10 D_Told_leftBits) [asV Value.ref (gR 0 9 (vR 0)), asV Value.int (vI 1)]))) (sRet (asV Value.int (iX (o1 (fun x => decide (x = 0)) (vI 2)) (cI (D_Integer_bitCount) [asV Value.int (vI 3)]) (vI 3)))))
theorem mf_X_who : Mf y_X_who prog_1_method_34_code 4 (some .int) 2 := ⟨tw_1250, tw_122, by decide +kernel⟩
noncomputable def D_X_who : Dn := runS [1, 1, 1] F_X_who
theorem ok_X_who : MOK y_X_who prog_1_method_34_code 4 (some .int) 6 0 0 D_X_who := MOK.of (by decide) (by decide) (show SO Y_X_who [(0, 1), (1, 1), (2, 1)] [(0, 1), (1, 1), (2, 1), (3, 1)] 0 48 (([], 0), ([], 0)) F_X_who from
  (s_seq (sl1 := [(0, 1), (1, 1), (2, 1)]) (p1 := 26) (s_if (pt := 24) (pf := 26) (c_or (p1 := 19) (c_or (p1 := 15) (c_or (p1 := 4) (c_if_ltT (p1 := 1) (tg := 24) (e_iload_n (k0 := 1) d_X_who_0 rfl rfl) d_X_who_1 rfl) (c_icmp_gtT (p1 := 5) (p2 := 12) (tg := 24) (e_iload_n (k0 := 1) d_X_who_4 rfl rfl) (e_gI (k0 := 0) (p1 := 9) cf_10 (e_gR (k0 := 9) (p1 := 6) cf_0 (e_aload_n (k0 := 0) d_X_who_5 rfl rfl) (by decide) tw_574 d_X_who_6) (by decide) tw_518 d_X_who_9) d_X_who_12 rfl)) (c_if_ltT (p1 := 16) (tg := 24) (e_iload_n (k0 := 2) d_X_who_15 rfl rfl) d_X_who_16 rfl)) (c_icmp_leF (p1 := 20) (p2 := 21) (tg := 26) (e_iload_n (k0 := 2) d_X_who_19 rfl rfl) (e_iconst d_X_who_20 (by decide)) d_X_who_21 rfl)) (s_ret (p1 := 25) (e_iconst d_X_who_24 (by decide)) rfl d_X_who_25) s_skip) (s_seq (sl1 := [(0, 1), (1, 1), (2, 1), (3, 1)]) (p1 := 35) (s_decl (p1 := 34) (e_cI (p1 := 31) (a_cons (ι := Value.ref) (k0 := 1) (p1 := 30) (fun _ => rfl) (e_gR (k0 := 9) (p1 := 27) cf_0 (e_aload_n (k0 := 0) d_X_who_26 rfl rfl) (by decide) tw_574 d_X_who_27) (a_cons (ι := Value.int) (k0 := 1) (p1 := 31) (fun _ => rfl) (e_iload_n (k0 := 1) d_X_who_30 rfl rfl) a_nil)) (k_virt ok_Told_leftBits mf_Told_leftBits ⟨tw_1252, tw_1253⟩ rfl tw_1251 d_X_who_31 (by decide) (by decide) (by decide))) (t_istore_n d_X_who_34 rfl (by decide)) rfl) (s_ret (p1 := 47) (e_ite (pt := 39) (p1 := 43) (pf := 46) (c_if_neF (p1 := 36) (tg := 46) (e_iload_n (k0 := 2) d_X_who_35 rfl rfl) d_X_who_36 rfl) (e_cI (p1 := 40) (a_cons (ι := Value.int) (k0 := 1) (p1 := 40) (fun _ => rfl) (e_iload_n (k0 := 3) d_X_who_39 rfl rfl) a_nil) (k_stat ok_Integer_bitCount mf_Integer_bitCount tw_1267 tw_1266 d_X_who_40 (by decide) (by decide) (by decide))) d_X_who_43 rfl (e_iload_n (k0 := 3) d_X_who_46 rfl rfl)) rfl d_X_who_47))))
/-! BlinkerCross.look(II)I -/
abbrev y_X_look : MethodName := ⟨"BlinkerCross", "look", "(II)I"⟩
abbrev Y_X_look : Yt := (prog_1_method_35_code, 4, "BlinkerCross", 7, (some .int), "look")
theorem d_X_look_0 : decode prog_1_method_35_code 0 = .ok (.iload_n 1, 1) := by decide +kernel
theorem d_X_look_1 : decode prog_1_method_35_code 1 = .ok (.ifCond .lt 24, 3) := by decide +kernel
theorem d_X_look_4 : decode prog_1_method_35_code 4 = .ok (.iload_n 1, 1) := by decide +kernel
theorem d_X_look_5 : decode prog_1_method_35_code 5 = .ok (.aload_n 0, 1) := by decide +kernel
theorem d_X_look_6 : decode prog_1_method_35_code 6 = .ok (.getfield 85, 3) := by decide +kernel
theorem d_X_look_9 : decode prog_1_method_35_code 9 = .ok (.getfield 120, 3) := by decide +kernel
theorem d_X_look_12 : decode prog_1_method_35_code 12 = .ok (.if_icmp .gt 13, 3) := by decide +kernel
theorem d_X_look_15 : decode prog_1_method_35_code 15 = .ok (.iload_n 2, 1) := by decide +kernel
theorem d_X_look_16 : decode prog_1_method_35_code 16 = .ok (.ifCond .lt 9, 3) := by decide +kernel
theorem d_X_look_19 : decode prog_1_method_35_code 19 = .ok (.iload_n 2, 1) := by decide +kernel
theorem d_X_look_20 : decode prog_1_method_35_code 20 = .ok (.bipush 99, 2) := by decide +kernel
theorem d_X_look_22 : decode prog_1_method_35_code 22 = .ok (.if_icmp .le 5, 3) := by decide +kernel
theorem d_X_look_25 : decode prog_1_method_35_code 25 = .ok (.iconst (-1), 1) := by decide +kernel
theorem d_X_look_26 : decode prog_1_method_35_code 26 = .ok (.ireturn, 1) := by decide +kernel
theorem d_X_look_27 : decode prog_1_method_35_code 27 = .ok (.aload_n 0, 1) := by decide +kernel
theorem d_X_look_28 : decode prog_1_method_35_code 28 = .ok (.getfield 85, 3) := by decide +kernel
theorem d_X_look_31 : decode prog_1_method_35_code 31 = .ok (.iload_n 1, 1) := by decide +kernel
theorem d_X_look_32 : decode prog_1_method_35_code 32 = .ok (.invokevirtual 276, 3) := by decide +kernel
theorem d_X_look_35 : decode prog_1_method_35_code 35 = .ok (.istore_n 3, 1) := by decide +kernel
theorem d_X_look_36 : decode prog_1_method_35_code 36 = .ok (.iload_n 3, 1) := by decide +kernel
theorem d_X_look_37 : decode prog_1_method_35_code 37 = .ok (.ifCond .ne 8, 3) := by decide +kernel
theorem d_X_look_40 : decode prog_1_method_35_code 40 = .ok (.bipush (-2), 2) := by decide +kernel
theorem d_X_look_42 : decode prog_1_method_35_code 42 = .ok (.goto 12, 3) := by decide +kernel
theorem d_X_look_45 : decode prog_1_method_35_code 45 = .ok (.aload_n 0, 1) := by decide +kernel
theorem d_X_look_46 : decode prog_1_method_35_code 46 = .ok (.getfield 85, 3) := by decide +kernel
theorem d_X_look_49 : decode prog_1_method_35_code 49 = .ok (.iload_n 3, 1) := by decide +kernel
theorem d_X_look_50 : decode prog_1_method_35_code 50 = .ok (.iload_n 2, 1) := by decide +kernel
theorem d_X_look_51 : decode prog_1_method_35_code 51 = .ok (.invokevirtual 284, 3) := by decide +kernel
theorem d_X_look_54 : decode prog_1_method_35_code 54 = .ok (.ireturn, 1) := by decide +kernel
noncomputable def F_X_look : Sm := sSeq (sIf (cOr (cOr (cOr (o1 (fun x => decide (x < 0)) (vI 1)) (o2 (fun x y => decide (x > y)) (vI 1) (gI 10 0 (gR 0 9 (vR 0))))) (o1 (fun x => decide (x < 0)) (vI 2))) (o2 (fun x y => decide (x > y)) (vI 2) (kI (ii 99)))) (sRet (asV Value.int (kI (ii (-1))))) (sSkip)) (sSeq (sDecl (asV Value.int (cI (mV 10 D_Told_leftBits) [asV Value.ref (gR 0 9 (vR 0)), asV Value.int (vI 1)]))) (sRet (asV Value.int (iX (o1 (fun x => decide (x = 0)) (vI 3)) (kI (ii (-2))) (cI (mV 10 D_Told_bestMark) [asV Value.ref (gR 0 9 (vR 0)), asV Value.int (vI 3), asV Value.int (vI 2)])))))
theorem mf_X_look : Mf y_X_look prog_1_method_35_code 4 (some .int) 2 := ⟨tw_1275, tw_122, by decide +kernel⟩
noncomputable def D_X_look : Dn := runS [1, 1, 1] F_X_look
theorem ok_X_look : MOK y_X_look prog_1_method_35_code 4 (some .int) 7 0 0 D_X_look := MOK.of (by decide) (by decide) (show SO Y_X_look [(0, 1), (1, 1), (2, 1)] [(0, 1), (1, 1), (2, 1), (3, 1)] 0 55 (([], 0), ([], 0)) F_X_look from
  (s_seq (sl1 := [(0, 1), (1, 1), (2, 1)]) (p1 := 27) (s_if (pt := 25) (pf := 27) (c_or (p1 := 19) (c_or (p1 := 15) (c_or (p1 := 4) (c_if_ltT (p1 := 1) (tg := 25) (e_iload_n (k0 := 1) d_X_look_0 rfl rfl) d_X_look_1 rfl) (c_icmp_gtT (p1 := 5) (p2 := 12) (tg := 25) (e_iload_n (k0 := 1) d_X_look_4 rfl rfl) (e_gI (k0 := 0) (p1 := 9) cf_10 (e_gR (k0 := 9) (p1 := 6) cf_0 (e_aload_n (k0 := 0) d_X_look_5 rfl rfl) (by decide) tw_574 d_X_look_6) (by decide) tw_518 d_X_look_9) d_X_look_12 rfl)) (c_if_ltT (p1 := 16) (tg := 25) (e_iload_n (k0 := 2) d_X_look_15 rfl rfl) d_X_look_16 rfl)) (c_icmp_leF (p1 := 20) (p2 := 22) (tg := 27) (e_iload_n (k0 := 2) d_X_look_19 rfl rfl) (e_bipush d_X_look_20 (by decide)) d_X_look_22 rfl)) (s_ret (p1 := 26) (e_iconst d_X_look_25 (by decide)) rfl d_X_look_26) s_skip) (s_seq (sl1 := [(0, 1), (1, 1), (2, 1), (3, 1)]) (p1 := 36) (s_decl (p1 := 35) (e_cI (p1 := 32) (a_cons (ι := Value.ref) (k0 := 1) (p1 := 31) (fun _ => rfl) (e_gR (k0 := 9) (p1 := 28) cf_0 (e_aload_n (k0 := 0) d_X_look_27 rfl rfl) (by decide) tw_574 d_X_look_28) (a_cons (ι := Value.int) (k0 := 1) (p1 := 32) (fun _ => rfl) (e_iload_n (k0 := 1) d_X_look_31 rfl rfl) a_nil)) (k_virt ok_Told_leftBits mf_Told_leftBits ⟨tw_1252, tw_1253⟩ rfl tw_1251 d_X_look_32 (by decide) (by decide) (by decide))) (t_istore_n d_X_look_35 rfl (by decide)) rfl) (s_ret (p1 := 54) (e_ite (pt := 40) (p1 := 42) (pf := 45) (c_if_neF (p1 := 37) (tg := 45) (e_iload_n (k0 := 3) d_X_look_36 rfl rfl) d_X_look_37 rfl) (e_bipush d_X_look_40 (by decide)) d_X_look_42 rfl (e_cI (p1 := 51) (a_cons (ι := Value.ref) (k0 := 1) (p1 := 49) (fun _ => rfl) (e_gR (k0 := 9) (p1 := 46) cf_0 (e_aload_n (k0 := 0) d_X_look_45 rfl rfl) (by decide) tw_574 d_X_look_46) (a_cons (ι := Value.int) (k0 := 1) (p1 := 50) (fun _ => rfl) (e_iload_n (k0 := 3) d_X_look_49 rfl rfl) (a_cons (ι := Value.int) (k0 := 1) (p1 := 51) (fun _ => rfl) (e_iload_n (k0 := 2) d_X_look_50 rfl rfl) a_nil))) (k_virt ok_Told_bestMark mf_Told_bestMark ⟨tw_1277, tw_1278⟩ rfl tw_1276 d_X_look_51 (by decide) (by decide) (by decide)))) rfl d_X_look_54))))
/-! BlinkerCross.hold(I)Z -/
abbrev y_X_hold : MethodName := ⟨"BlinkerCross", "hold", "(I)Z"⟩
abbrev Y_X_hold : Yt := (prog_1_method_36_code, 2, "BlinkerCross", 3, (some .boolean), "hold")
theorem d_X_hold_0 : decode prog_1_method_36_code 0 = .ok (.aload_n 0, 1) := by decide +kernel
theorem d_X_hold_1 : decode prog_1_method_36_code 1 = .ok (.getfield 92, 3) := by decide +kernel
theorem d_X_hold_4 : decode prog_1_method_36_code 4 = .ok (.iload_n 1, 1) := by decide +kernel
theorem d_X_hold_5 : decode prog_1_method_36_code 5 = .ok (.aload_n 0, 1) := by decide +kernel
theorem d_X_hold_6 : decode prog_1_method_36_code 6 = .ok (.getfield 37, 3) := by decide +kernel
theorem d_X_hold_9 : decode prog_1_method_36_code 9 = .ok (.invokevirtual 287, 3) := by decide +kernel
theorem d_X_hold_12 : decode prog_1_method_36_code 12 = .ok (.ireturn, 1) := by decide +kernel
noncomputable def F_X_hold : Sm := sRetZ (cI (mV 11 D_History_keep) [asV Value.ref (gR 0 10 (vR 0)), asV Value.int (vI 1), asV Value.ref (gR 0 3 (vR 0))])
theorem mf_X_hold : Mf y_X_hold prog_1_method_36_code 2 (some .boolean) 1 := ⟨tw_1288, tw_122, by decide +kernel⟩
noncomputable def D_X_hold : Dn := runS [1, 1] F_X_hold
theorem ok_X_hold : MOK y_X_hold prog_1_method_36_code 2 (some .boolean) 3 0 0 D_X_hold := MOK.of (by decide) (by decide) (show SO Y_X_hold [(0, 1), (1, 1)] [(0, 1), (1, 1)] 0 13 (([], 0), ([], 0)) F_X_hold from
  (s_retZ (p1 := 12) (e_cI (p1 := 9) (a_cons (ι := Value.ref) (k0 := 1) (p1 := 4) (fun _ => rfl) (e_gR (k0 := 10) (p1 := 1) cf_0 (e_aload_n (k0 := 0) d_X_hold_0 rfl rfl) (by decide) tw_575 d_X_hold_1) (a_cons (ι := Value.int) (k0 := 1) (p1 := 5) (fun _ => rfl) (e_iload_n (k0 := 1) d_X_hold_4 rfl rfl) (a_cons (ι := Value.ref) (k0 := 1) (p1 := 9) (fun _ => rfl) (e_gR (k0 := 3) (p1 := 6) cf_0 (e_aload_n (k0 := 0) d_X_hold_5 rfl rfl) (by decide) tw_568 d_X_hold_6) a_nil))) (k_virt ok_History_keep mf_History_keep ⟨tw_1290, tw_1291⟩ rfl tw_1289 d_X_hold_9 (by decide) (by decide) (by decide))) rfl d_X_hold_12))
/-! BlinkerCross.restore(I)Z -/
abbrev y_X_restore : MethodName := ⟨"BlinkerCross", "restore", "(I)Z"⟩
abbrev Y_X_restore : Yt := (prog_1_method_37_code, 2, "BlinkerCross", 5, (some .boolean), "restore")
theorem d_X_restore_0 : decode prog_1_method_37_code 0 = .ok (.aload_n 0, 1) := by decide +kernel
theorem d_X_restore_1 : decode prog_1_method_37_code 1 = .ok (.getfield 92, 3) := by decide +kernel
theorem d_X_restore_4 : decode prog_1_method_37_code 4 = .ok (.iload_n 1, 1) := by decide +kernel
theorem d_X_restore_5 : decode prog_1_method_37_code 5 = .ok (.aload_n 0, 1) := by decide +kernel
theorem d_X_restore_6 : decode prog_1_method_37_code 6 = .ok (.getfield 37, 3) := by decide +kernel
theorem d_X_restore_9 : decode prog_1_method_37_code 9 = .ok (.invokevirtual 291, 3) := by decide +kernel
theorem d_X_restore_12 : decode prog_1_method_37_code 12 = .ok (.ireturn, 1) := by decide +kernel
noncomputable def F_X_restore : Sm := sRetZ (cI (mV 11 D_History_bringBack) [asV Value.ref (gR 0 10 (vR 0)), asV Value.int (vI 1), asV Value.ref (gR 0 3 (vR 0))])
theorem mf_X_restore : Mf y_X_restore prog_1_method_37_code 2 (some .boolean) 1 := ⟨tw_1296, tw_122, by decide +kernel⟩
noncomputable def D_X_restore : Dn := runS [1, 1] F_X_restore
theorem ok_X_restore : MOK y_X_restore prog_1_method_37_code 2 (some .boolean) 5 0 0 D_X_restore := MOK.of (by decide) (by decide) (show SO Y_X_restore [(0, 1), (1, 1)] [(0, 1), (1, 1)] 0 13 (([], 0), ([], 0)) F_X_restore from
  (s_retZ (p1 := 12) (e_cI (p1 := 9) (a_cons (ι := Value.ref) (k0 := 1) (p1 := 4) (fun _ => rfl) (e_gR (k0 := 10) (p1 := 1) cf_0 (e_aload_n (k0 := 0) d_X_restore_0 rfl rfl) (by decide) tw_575 d_X_restore_1) (a_cons (ι := Value.int) (k0 := 1) (p1 := 5) (fun _ => rfl) (e_iload_n (k0 := 1) d_X_restore_4 rfl rfl) (a_cons (ι := Value.ref) (k0 := 1) (p1 := 9) (fun _ => rfl) (e_gR (k0 := 3) (p1 := 6) cf_0 (e_aload_n (k0 := 0) d_X_restore_5 rfl rfl) (by decide) tw_568 d_X_restore_6) a_nil))) (k_virt ok_History_bringBack mf_History_bringBack ⟨tw_1298, tw_1299⟩ rfl tw_1297 d_X_restore_9 (by decide) (by decide) (by decide))) rfl d_X_restore_12))
/-! BlinkerCross.count(I)I -/
abbrev y_X_count : MethodName := ⟨"BlinkerCross", "count", "(I)I"⟩
abbrev Y_X_count : Yt := (prog_1_method_38_code, 2, "BlinkerCross", 5, (some .int), "count")
theorem d_X_count_0 : decode prog_1_method_38_code 0 = .ok (.iload_n 1, 1) := by decide +kernel
theorem d_X_count_1 : decode prog_1_method_38_code 1 = .ok (.tableswitch 225 0 15 #[79, 87, 95, 106, 118, 126, 138, 146, 154, 162, 170, 178, 186, 196, 206, 215], 79) := by decide +kernel
theorem d_X_count_80 : decode prog_1_method_38_code 80 = .ok (.aload_n 0, 1) := by decide +kernel
theorem d_X_count_81 : decode prog_1_method_38_code 81 = .ok (.getfield 19, 3) := by decide +kernel
theorem d_X_count_84 : decode prog_1_method_38_code 84 = .ok (.getfield 265, 3) := by decide +kernel
theorem d_X_count_87 : decode prog_1_method_38_code 87 = .ok (.ireturn, 1) := by decide +kernel
theorem d_X_count_88 : decode prog_1_method_38_code 88 = .ok (.aload_n 0, 1) := by decide +kernel
theorem d_X_count_89 : decode prog_1_method_38_code 89 = .ok (.getfield 19, 3) := by decide +kernel
theorem d_X_count_92 : decode prog_1_method_38_code 92 = .ok (.getfield 203, 3) := by decide +kernel
theorem d_X_count_95 : decode prog_1_method_38_code 95 = .ok (.ireturn, 1) := by decide +kernel
theorem d_X_count_96 : decode prog_1_method_38_code 96 = .ok (.aload_n 0, 1) := by decide +kernel
theorem d_X_count_97 : decode prog_1_method_38_code 97 = .ok (.getfield 37, 3) := by decide +kernel
theorem d_X_count_100 : decode prog_1_method_38_code 100 = .ok (.getfield 151, 3) := by decide +kernel
theorem d_X_count_103 : decode prog_1_method_38_code 103 = .ok (.bipush 25, 2) := by decide +kernel
theorem d_X_count_105 : decode prog_1_method_38_code 105 = .ok (.iaload, 1) := by decide +kernel
theorem d_X_count_106 : decode prog_1_method_38_code 106 = .ok (.ireturn, 1) := by decide +kernel
theorem d_X_count_107 : decode prog_1_method_38_code 107 = .ok (.aload_n 0, 1) := by decide +kernel
theorem d_X_count_108 : decode prog_1_method_38_code 108 = .ok (.getfield 44, 3) := by decide +kernel
theorem d_X_count_111 : decode prog_1_method_38_code 111 = .ok (.aload_n 0, 1) := by decide +kernel
theorem d_X_count_112 : decode prog_1_method_38_code 112 = .ok (.getfield 37, 3) := by decide +kernel
theorem d_X_count_115 : decode prog_1_method_38_code 115 = .ok (.invokevirtual 294, 3) := by decide +kernel
theorem d_X_count_118 : decode prog_1_method_38_code 118 = .ok (.ireturn, 1) := by decide +kernel
theorem d_X_count_119 : decode prog_1_method_38_code 119 = .ok (.aload_n 0, 1) := by decide +kernel
theorem d_X_count_120 : decode prog_1_method_38_code 120 = .ok (.getfield 37, 3) := by decide +kernel
theorem d_X_count_123 : decode prog_1_method_38_code 123 = .ok (.invokevirtual 298, 3) := by decide +kernel
theorem d_X_count_126 : decode prog_1_method_38_code 126 = .ok (.ireturn, 1) := by decide +kernel
theorem d_X_count_127 : decode prog_1_method_38_code 127 = .ok (.aload_n 0, 1) := by decide +kernel
theorem d_X_count_128 : decode prog_1_method_38_code 128 = .ok (.getfield 44, 3) := by decide +kernel
theorem d_X_count_131 : decode prog_1_method_38_code 131 = .ok (.aload_n 0, 1) := by decide +kernel
theorem d_X_count_132 : decode prog_1_method_38_code 132 = .ok (.getfield 37, 3) := by decide +kernel
theorem d_X_count_135 : decode prog_1_method_38_code 135 = .ok (.invokevirtual 301, 3) := by decide +kernel
theorem d_X_count_138 : decode prog_1_method_38_code 138 = .ok (.ireturn, 1) := by decide +kernel
theorem d_X_count_139 : decode prog_1_method_38_code 139 = .ok (.aload_n 0, 1) := by decide +kernel
theorem d_X_count_140 : decode prog_1_method_38_code 140 = .ok (.getfield 37, 3) := by decide +kernel
theorem d_X_count_143 : decode prog_1_method_38_code 143 = .ok (.invokevirtual 304, 3) := by decide +kernel
theorem d_X_count_146 : decode prog_1_method_38_code 146 = .ok (.ireturn, 1) := by decide +kernel
theorem d_X_count_147 : decode prog_1_method_38_code 147 = .ok (.aload_n 0, 1) := by decide +kernel
theorem d_X_count_148 : decode prog_1_method_38_code 148 = .ok (.getfield 37, 3) := by decide +kernel
theorem d_X_count_151 : decode prog_1_method_38_code 151 = .ok (.invokevirtual 307, 3) := by decide +kernel
theorem d_X_count_154 : decode prog_1_method_38_code 154 = .ok (.ireturn, 1) := by decide +kernel
theorem d_X_count_155 : decode prog_1_method_38_code 155 = .ok (.aload_n 0, 1) := by decide +kernel
theorem d_X_count_156 : decode prog_1_method_38_code 156 = .ok (.getfield 12, 3) := by decide +kernel
theorem d_X_count_159 : decode prog_1_method_38_code 159 = .ok (.getfield 96, 3) := by decide +kernel
theorem d_X_count_162 : decode prog_1_method_38_code 162 = .ok (.ireturn, 1) := by decide +kernel
theorem d_X_count_163 : decode prog_1_method_38_code 163 = .ok (.aload_n 0, 1) := by decide +kernel
theorem d_X_count_164 : decode prog_1_method_38_code 164 = .ok (.getfield 92, 3) := by decide +kernel
theorem d_X_count_167 : decode prog_1_method_38_code 167 = .ok (.getfield 310, 3) := by decide +kernel
theorem d_X_count_170 : decode prog_1_method_38_code 170 = .ok (.ireturn, 1) := by decide +kernel
theorem d_X_count_171 : decode prog_1_method_38_code 171 = .ok (.aload_n 0, 1) := by decide +kernel
theorem d_X_count_172 : decode prog_1_method_38_code 172 = .ok (.getfield 85, 3) := by decide +kernel
theorem d_X_count_175 : decode prog_1_method_38_code 175 = .ok (.getfield 120, 3) := by decide +kernel
theorem d_X_count_178 : decode prog_1_method_38_code 178 = .ok (.ireturn, 1) := by decide +kernel
theorem d_X_count_179 : decode prog_1_method_38_code 179 = .ok (.aload_n 0, 1) := by decide +kernel
theorem d_X_count_180 : decode prog_1_method_38_code 180 = .ok (.getfield 92, 3) := by decide +kernel
theorem d_X_count_183 : decode prog_1_method_38_code 183 = .ok (.invokevirtual 311, 3) := by decide +kernel
theorem d_X_count_186 : decode prog_1_method_38_code 186 = .ok (.ireturn, 1) := by decide +kernel
theorem d_X_count_187 : decode prog_1_method_38_code 187 = .ok (.aload_n 0, 1) := by decide +kernel
theorem d_X_count_188 : decode prog_1_method_38_code 188 = .ok (.getfield 37, 3) := by decide +kernel
theorem d_X_count_191 : decode prog_1_method_38_code 191 = .ok (.bipush 15, 2) := by decide +kernel
theorem d_X_count_193 : decode prog_1_method_38_code 193 = .ok (.invokevirtual 314, 3) := by decide +kernel
theorem d_X_count_196 : decode prog_1_method_38_code 196 = .ok (.ireturn, 1) := by decide +kernel
theorem d_X_count_197 : decode prog_1_method_38_code 197 = .ok (.aload_n 0, 1) := by decide +kernel
theorem d_X_count_198 : decode prog_1_method_38_code 198 = .ok (.getfield 37, 3) := by decide +kernel
theorem d_X_count_201 : decode prog_1_method_38_code 201 = .ok (.bipush 20, 2) := by decide +kernel
theorem d_X_count_203 : decode prog_1_method_38_code 203 = .ok (.invokevirtual 314, 3) := by decide +kernel
theorem d_X_count_206 : decode prog_1_method_38_code 206 = .ok (.ireturn, 1) := by decide +kernel
theorem d_X_count_207 : decode prog_1_method_38_code 207 = .ok (.aload_n 0, 1) := by decide +kernel
theorem d_X_count_208 : decode prog_1_method_38_code 208 = .ok (.getfield 37, 3) := by decide +kernel
theorem d_X_count_211 : decode prog_1_method_38_code 211 = .ok (.iconst 5, 1) := by decide +kernel
theorem d_X_count_212 : decode prog_1_method_38_code 212 = .ok (.invokevirtual 314, 3) := by decide +kernel
theorem d_X_count_215 : decode prog_1_method_38_code 215 = .ok (.ireturn, 1) := by decide +kernel
theorem d_X_count_216 : decode prog_1_method_38_code 216 = .ok (.aload_n 0, 1) := by decide +kernel
theorem d_X_count_217 : decode prog_1_method_38_code 217 = .ok (.getfield 37, 3) := by decide +kernel
theorem d_X_count_220 : decode prog_1_method_38_code 220 = .ok (.bipush 10, 2) := by decide +kernel
theorem d_X_count_222 : decode prog_1_method_38_code 222 = .ok (.invokevirtual 314, 3) := by decide +kernel
theorem d_X_count_225 : decode prog_1_method_38_code 225 = .ok (.ireturn, 1) := by decide +kernel
theorem d_X_count_226 : decode prog_1_method_38_code 226 = .ok (.ldc 177, 2) := by decide +kernel
theorem d_X_count_228 : decode prog_1_method_38_code 228 = .ok (.ireturn, 1) := by decide +kernel
noncomputable def F_X_count : Sm := sSw (vI 1) [(ii 0, sRet (asV Value.int (gI 2 0 (gR 0 1 (vR 0))))), (ii 1, sRet (asV Value.int (gI 2 1 (gR 0 1 (vR 0))))), (ii 2, sRet (asV Value.int (aI 0 (gR 4 0 (gR 0 3 (vR 0))) (kI (ii 25))))), (ii 3, sRet (asV Value.int (cI (mV 5 D_Laws_standsOfAll) [asV Value.ref (gR 0 4 (vR 0)), asV Value.ref (gR 0 3 (vR 0))]))), (ii 4, sRet (asV Value.int (cI (mV 4 D_Scene_missedByAll) [asV Value.ref (gR 0 3 (vR 0))]))), (ii 5, sRet (asV Value.int (cI (mV 5 D_Laws_gainOfAll) [asV Value.ref (gR 0 4 (vR 0)), asV Value.ref (gR 0 3 (vR 0))]))), (ii 6, sRet (asV Value.int (cI (mV 4 D_Scene_chosenBits) [asV Value.ref (gR 0 3 (vR 0))]))), (ii 7, sRet (asV Value.int (cI (mV 4 D_Scene_seenByAnyBits) [asV Value.ref (gR 0 3 (vR 0))]))), (ii 8, sRet (asV Value.int (gI 1 1 (gR 0 0 (vR 0))))), (ii 9, sRet (asV Value.int (gI 11 0 (gR 0 10 (vR 0))))), (ii 10, sRet (asV Value.int (gI 10 0 (gR 0 9 (vR 0))))), (ii 11, sRet (asV Value.int (cI (mV 11 D_History_heldCount) [asV Value.ref (gR 0 10 (vR 0))]))), (ii 12, sRet (asV Value.int (cI (mV 4 D_Scene_sumFrom) [asV Value.ref (gR 0 3 (vR 0)), asV Value.int (kI (ii 15))]))), (ii 13, sRet (asV Value.int (cI (mV 4 D_Scene_sumFrom) [asV Value.ref (gR 0 3 (vR 0)), asV Value.int (kI (ii 20))]))), (ii 14, sRet (asV Value.int (cI (mV 4 D_Scene_sumFrom) [asV Value.ref (gR 0 3 (vR 0)), asV Value.int (kI (ii 5))]))), (ii 15, sRet (asV Value.int (cI (mV 4 D_Scene_sumFrom) [asV Value.ref (gR 0 3 (vR 0)), asV Value.int (kI (ii 10))])))] (sRet (asV Value.int (kI (ii (-100000)))))
theorem mf_X_count : Mf y_X_count prog_1_method_38_code 2 (some .int) 1 := ⟨tw_1304, tw_122, by decide +kernel⟩
noncomputable def D_X_count : Dn := runS [1, 1] F_X_count
set_option maxRecDepth 100000 in
theorem ok_X_count : MOK y_X_count prog_1_method_38_code 2 (some .int) 5 0 0 D_X_count := MOK.of (by decide) (by decide) (show SO Y_X_count [(0, 1), (1, 1)] [(0, 1), (1, 1)] 0 0 (([], 0), ([], 0)) F_X_count from
  (s_tab (p1 := 1) (P := [(ii 0, 80), (ii 1, 88), (ii 2, 96), (ii 3, 107), (ii 4, 119), (ii 5, 127), (ii 6, 139), (ii 7, 147), (ii 8, 155), (ii 9, 163), (ii 10, 171), (ii 11, 179), (ii 12, 187), (ii 13, 197), (ii 14, 207), (ii 15, 216)]) (pd := 226) (jc := ([], 0)) (dflt := 225) (lo := 0) (hi := 15) (offs := #[79, 87, 95, 106, 118, 126, 138, 146, 154, 162, 170, 178, 186, 196, 206, 215]) (len := 79) (e_iload_n (k0 := 1) d_X_count_0 rfl rfl) d_X_count_1 (by decide) (by decide +kernel) ⟨rfl, (s_ret (p1 := 87) (e_gI (k0 := 0) (p1 := 84) cf_2 (e_gR (k0 := 1) (p1 := 81) cf_0 (e_aload_n (k0 := 0) d_X_count_80 rfl rfl) (by decide) tw_566 d_X_count_81) (by decide) tw_203 d_X_count_84) rfl d_X_count_87), ⟨rfl, (s_ret (p1 := 95) (e_gI (k0 := 1) (p1 := 92) cf_2 (e_gR (k0 := 1) (p1 := 89) cf_0 (e_aload_n (k0 := 0) d_X_count_88 rfl rfl) (by decide) tw_566 d_X_count_89) (by decide) tw_213 d_X_count_92) rfl d_X_count_95), ⟨rfl, (s_ret (p1 := 106) (e_iald (p1 := 103) (p2 := 105) (e_gR (k0 := 0) (p1 := 100) cf_4 (e_gR (k0 := 3) (p1 := 97) cf_0 (e_aload_n (k0 := 0) d_X_count_96 rfl rfl) (by decide) tw_568 d_X_count_97) (by decide) tw_320 d_X_count_100) (e_bipush d_X_count_103 (by decide)) d_X_count_105) rfl d_X_count_106), ⟨rfl, (s_ret (p1 := 118) (e_cI (p1 := 115) (a_cons (ι := Value.ref) (k0 := 1) (p1 := 111) (fun _ => rfl) (e_gR (k0 := 4) (p1 := 108) cf_0 (e_aload_n (k0 := 0) d_X_count_107 rfl rfl) (by decide) tw_569 d_X_count_108) (a_cons (ι := Value.ref) (k0 := 1) (p1 := 115) (fun _ => rfl) (e_gR (k0 := 3) (p1 := 112) cf_0 (e_aload_n (k0 := 0) d_X_count_111 rfl rfl) (by decide) tw_568 d_X_count_112) a_nil)) (k_virt ok_Laws_standsOfAll mf_Laws_standsOfAll ⟨tw_1306, tw_1307⟩ rfl tw_1305 d_X_count_115 (by decide) (by decide) (by decide))) rfl d_X_count_118), ⟨rfl, (s_ret (p1 := 126) (e_cI (p1 := 123) (a_cons (ι := Value.ref) (k0 := 1) (p1 := 123) (fun _ => rfl) (e_gR (k0 := 3) (p1 := 120) cf_0 (e_aload_n (k0 := 0) d_X_count_119 rfl rfl) (by decide) tw_568 d_X_count_120) a_nil) (k_virt ok_Scene_missedByAll mf_Scene_missedByAll ⟨tw_1311, tw_1312⟩ rfl tw_1310 d_X_count_123 (by decide) (by decide) (by decide))) rfl d_X_count_126), ⟨rfl, (s_ret (p1 := 138) (e_cI (p1 := 135) (a_cons (ι := Value.ref) (k0 := 1) (p1 := 131) (fun _ => rfl) (e_gR (k0 := 4) (p1 := 128) cf_0 (e_aload_n (k0 := 0) d_X_count_127 rfl rfl) (by decide) tw_569 d_X_count_128) (a_cons (ι := Value.ref) (k0 := 1) (p1 := 135) (fun _ => rfl) (e_gR (k0 := 3) (p1 := 132) cf_0 (e_aload_n (k0 := 0) d_X_count_131 rfl rfl) (by decide) tw_568 d_X_count_132) a_nil)) (k_virt ok_Laws_gainOfAll mf_Laws_gainOfAll ⟨tw_1316, tw_1317⟩ rfl tw_1315 d_X_count_135 (by decide) (by decide) (by decide))) rfl d_X_count_138), ⟨rfl, (s_ret (p1 := 146) (e_cI (p1 := 143) (a_cons (ι := Value.ref) (k0 := 1) (p1 := 143) (fun _ => rfl) (e_gR (k0 := 3) (p1 := 140) cf_0 (e_aload_n (k0 := 0) d_X_count_139 rfl rfl) (by decide) tw_568 d_X_count_140) a_nil) (k_virt ok_Scene_chosenBits mf_Scene_chosenBits ⟨tw_1321, tw_1322⟩ rfl tw_1320 d_X_count_143 (by decide) (by decide) (by decide))) rfl d_X_count_146), ⟨rfl, (s_ret (p1 := 154) (e_cI (p1 := 151) (a_cons (ι := Value.ref) (k0 := 1) (p1 := 151) (fun _ => rfl) (e_gR (k0 := 3) (p1 := 148) cf_0 (e_aload_n (k0 := 0) d_X_count_147 rfl rfl) (by decide) tw_568 d_X_count_148) a_nil) (k_virt ok_Scene_seenByAnyBits mf_Scene_seenByAnyBits ⟨tw_1325, tw_1326⟩ rfl tw_1324 d_X_count_151 (by decide) (by decide) (by decide))) rfl d_X_count_154), ⟨rfl, (s_ret (p1 := 162) (e_gI (k0 := 1) (p1 := 159) cf_1 (e_gR (k0 := 0) (p1 := 156) cf_0 (e_aload_n (k0 := 0) d_X_count_155 rfl rfl) (by decide) tw_565 d_X_count_156) (by decide) tw_158 d_X_count_159) rfl d_X_count_162), ⟨rfl, (s_ret (p1 := 170) (e_gI (k0 := 0) (p1 := 167) cf_11 (e_gR (k0 := 10) (p1 := 164) cf_0 (e_aload_n (k0 := 0) d_X_count_163 rfl rfl) (by decide) tw_575 d_X_count_164) (by decide) tw_549 d_X_count_167) rfl d_X_count_170), ⟨rfl, (s_ret (p1 := 178) (e_gI (k0 := 0) (p1 := 175) cf_10 (e_gR (k0 := 9) (p1 := 172) cf_0 (e_aload_n (k0 := 0) d_X_count_171 rfl rfl) (by decide) tw_574 d_X_count_172) (by decide) tw_518 d_X_count_175) rfl d_X_count_178), ⟨rfl, (s_ret (p1 := 186) (e_cI (p1 := 183) (a_cons (ι := Value.ref) (k0 := 1) (p1 := 183) (fun _ => rfl) (e_gR (k0 := 10) (p1 := 180) cf_0 (e_aload_n (k0 := 0) d_X_count_179 rfl rfl) (by decide) tw_575 d_X_count_180) a_nil) (k_virt ok_History_heldCount mf_History_heldCount ⟨tw_1329, tw_1330⟩ rfl tw_1328 d_X_count_183 (by decide) (by decide) (by decide))) rfl d_X_count_186), ⟨rfl, (s_ret (p1 := 196) (e_cI (p1 := 193) (a_cons (ι := Value.ref) (k0 := 1) (p1 := 191) (fun _ => rfl) (e_gR (k0 := 3) (p1 := 188) cf_0 (e_aload_n (k0 := 0) d_X_count_187 rfl rfl) (by decide) tw_568 d_X_count_188) (a_cons (ι := Value.int) (k0 := 1) (p1 := 193) (fun _ => rfl) (e_bipush d_X_count_191 (by decide)) a_nil)) (k_virt ok_Scene_sumFrom mf_Scene_sumFrom ⟨tw_1333, tw_1334⟩ rfl tw_1332 d_X_count_193 (by decide) (by decide) (by decide))) rfl d_X_count_196), ⟨rfl, (s_ret (p1 := 206) (e_cI (p1 := 203) (a_cons (ι := Value.ref) (k0 := 1) (p1 := 201) (fun _ => rfl) (e_gR (k0 := 3) (p1 := 198) cf_0 (e_aload_n (k0 := 0) d_X_count_197 rfl rfl) (by decide) tw_568 d_X_count_198) (a_cons (ι := Value.int) (k0 := 1) (p1 := 203) (fun _ => rfl) (e_bipush d_X_count_201 (by decide)) a_nil)) (k_virt ok_Scene_sumFrom mf_Scene_sumFrom ⟨tw_1333, tw_1334⟩ rfl tw_1332 d_X_count_203 (by decide) (by decide) (by decide))) rfl d_X_count_206), ⟨rfl, (s_ret (p1 := 215) (e_cI (p1 := 212) (a_cons (ι := Value.ref) (k0 := 1) (p1 := 211) (fun _ => rfl) (e_gR (k0 := 3) (p1 := 208) cf_0 (e_aload_n (k0 := 0) d_X_count_207 rfl rfl) (by decide) tw_568 d_X_count_208) (a_cons (ι := Value.int) (k0 := 1) (p1 := 212) (fun _ => rfl) (e_iconst d_X_count_211 (by decide)) a_nil)) (k_virt ok_Scene_sumFrom mf_Scene_sumFrom ⟨tw_1333, tw_1334⟩ rfl tw_1332 d_X_count_212 (by decide) (by decide) (by decide))) rfl d_X_count_215), ⟨rfl, (s_ret (p1 := 225) (e_cI (p1 := 222) (a_cons (ι := Value.ref) (k0 := 1) (p1 := 220) (fun _ => rfl) (e_gR (k0 := 3) (p1 := 217) cf_0 (e_aload_n (k0 := 0) d_X_count_216 rfl rfl) (by decide) tw_568 d_X_count_217) (a_cons (ι := Value.int) (k0 := 1) (p1 := 222) (fun _ => rfl) (e_bipush d_X_count_220 (by decide)) a_nil)) (k_virt ok_Scene_sumFrom mf_Scene_sumFrom ⟨tw_1333, tw_1334⟩ rfl tw_1332 d_X_count_222 (by decide) (by decide) (by decide))) rfl d_X_count_225), trivial⟩⟩⟩⟩⟩⟩⟩⟩⟩⟩⟩⟩⟩⟩⟩⟩ (s_ret (p1 := 228) (e_ldc d_X_count_226 tw_966) rfl d_X_count_228)))

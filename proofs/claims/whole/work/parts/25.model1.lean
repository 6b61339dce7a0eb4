/-! Methods: bytes, denotations, that the bytes do so (written by wip/whole/jgen.py). -/
/-! BlinkerCrossModel.lays(I)V -/
abbrev y_M_lays : MethodName := ⟨"BlinkerCrossModel", "lays", "(I)V"⟩
abbrev Y_M_lays : Yt := (prog_14_method_4_code, 3, "BlinkerCrossModel", 0, none, "lays")
theorem d_M_lays_0 : decode prog_14_method_4_code 0 = .ok (.bipush 24, 2) := by decide +kernel
theorem d_M_lays_2 : decode prog_14_method_4_code 2 = .ok (.istore_n 2, 1) := by decide +kernel
theorem d_M_lays_3 : decode prog_14_method_4_code 3 = .ok (.iload_n 2, 1) := by decide +kernel
theorem d_M_lays_4 : decode prog_14_method_4_code 4 = .ok (.ifCond .lt 32, 3) := by decide +kernel
theorem d_M_lays_7 : decode prog_14_method_4_code 7 = .ok (.aload_n 0, 1) := by decide +kernel
theorem d_M_lays_8 : decode prog_14_method_4_code 8 = .ok (.getfield 13, 3) := by decide +kernel
theorem d_M_lays_11 : decode prog_14_method_4_code 11 = .ok (.aload_n 0, 1) := by decide +kernel
theorem d_M_lays_12 : decode prog_14_method_4_code 12 = .ok (.getfield 175, 3) := by decide +kernel
theorem d_M_lays_15 : decode prog_14_method_4_code 15 = .ok (.iload_n 1, 1) := by decide +kernel
theorem d_M_lays_16 : decode prog_14_method_4_code 16 = .ok (.iload_n 2, 1) := by decide +kernel
theorem d_M_lays_17 : decode prog_14_method_4_code 17 = .ok (.ishr, 1) := by decide +kernel
theorem d_M_lays_18 : decode prog_14_method_4_code 18 = .ok (.i2b, 1) := by decide +kernel
theorem d_M_lays_19 : decode prog_14_method_4_code 19 = .ok (.bastore, 1) := by decide +kernel
theorem d_M_lays_20 : decode prog_14_method_4_code 20 = .ok (.aload_n 0, 1) := by decide +kernel
theorem d_M_lays_21 : decode prog_14_method_4_code 21 = .ok (.dup, 1) := by decide +kernel
theorem d_M_lays_22 : decode prog_14_method_4_code 22 = .ok (.getfield 175, 3) := by decide +kernel
theorem d_M_lays_25 : decode prog_14_method_4_code 25 = .ok (.iconst 1, 1) := by decide +kernel
theorem d_M_lays_26 : decode prog_14_method_4_code 26 = .ok (.iadd, 1) := by decide +kernel
theorem d_M_lays_27 : decode prog_14_method_4_code 27 = .ok (.putfield 175, 3) := by decide +kernel
theorem d_M_lays_30 : decode prog_14_method_4_code 30 = .ok (.iinc 2 (-8), 3) := by decide +kernel
theorem d_M_lays_33 : decode prog_14_method_4_code 33 = .ok (.goto (-30), 3) := by decide +kernel
theorem d_M_lays_36 : decode prog_14_method_4_code 36 = .ok (.return_, 1) := by decide +kernel
noncomputable def Lc_M_lays_1 : Xp Bool := o1 (fun x => decide (x ≥ 0)) (vI 2)
noncomputable def Lb_M_lays_1 : Sm := sSeq (sAst 1 (gR 12 1 (vR 0)) (gI 12 2 (vR 0)) (o1 (fun x => x.toInt8.toInt32) (o2 (fun (x y : Int32) => x >>> (y &&& 31)) (vI 1) (vI 2)))) (sFop 12 2 (vR 0) (fun x y => x + y) (kI (ii 1)))
noncomputable def Lu_M_lays_1 : Sm := sInc 2 (ii (-8))
noncomputable def F_M_lays : Sm := sSeq (sBlk 2 (sSeq (sDecl (asV Value.int (kI (ii 24)))) (sWh (Lc_M_lays_1) (Lb_M_lays_1) Lu_M_lays_1))) (sRetV)
theorem mf_M_lays : Mf y_M_lays prog_14_method_4_code 3 none 1 := ⟨tw_1587, tw_134, by decide +kernel⟩
noncomputable def D_M_lays : Dn := runS [1, 1] F_M_lays
theorem ok_M_lays : MOK y_M_lays prog_14_method_4_code 3 none 0 0 0 D_M_lays := MOK.of (by decide) (by decide) (show SO Y_M_lays [(0, 1), (1, 1)] [(0, 1), (1, 1)] 0 37 (([], 0), ([], 0)) F_M_lays from
  (s_seq (sl1 := [(0, 1), (1, 1)]) (p1 := 36) (s_blk (sl1 := [(0, 1), (1, 1), (2, 1)]) (s_seq (sl1 := [(0, 1), (1, 1), (2, 1)]) (p1 := 3) (s_decl (p1 := 2) (e_bipush d_M_lays_0 (by decide)) (t_istore_n d_M_lays_2 rfl (by decide)) rfl) (s_for (pt := 7) (pu := 30) (pf := 36) (pg := 0) (c_if_ltF (p1 := 4) (tg := 36) (e_iload_n (k0 := 2) d_M_lays_3 rfl rfl) d_M_lays_4 rfl) (s_seq (sl1 := [(0, 1), (1, 1), (2, 1)]) (p1 := 20) (s_ast (p1 := 11) (p2 := 15) (p3 := 19) (e_gR (k0 := 1) (p1 := 8) cf_12 (e_aload_n (k0 := 0) d_M_lays_7 rfl rfl) (by decide) tw_1361 d_M_lays_8) (e_gI (k0 := 2) (p1 := 12) cf_12 (e_aload_n (k0 := 0) d_M_lays_11 rfl rfl) (by decide) tw_1362 d_M_lays_12) (e_i2b (p1 := 18) (e_ishr (p1 := 16) (p2 := 17) (e_iload_n (k0 := 1) d_M_lays_15 rfl rfl) (e_iload_n (k0 := 2) d_M_lays_16 rfl rfl) d_M_lays_17) d_M_lays_18) (as_b d_M_lays_19)) (s_fop (k0 := 2) (p1 := 21) (p2 := 26) cf_12 (e_aload_n (k0 := 0) d_M_lays_20 rfl rfl) d_M_lays_21 d_M_lays_22 (e_iconst d_M_lays_25 (by decide)) (op_iadd d_M_lays_26) (by decide) rfl tw_1362 tw_1362 rfl d_M_lays_27)) (s_goto (p1 := 33) (s_inc (k0 := 2) d_M_lays_30 rfl rfl (Nat.le_of_ble_eq_true rfl) rfl) d_M_lays_33 rfl))) rfl) (s_retV rfl d_M_lays_36)))
/-! BlinkerCrossModel.feed(IIIII)I -/
abbrev y_M_feed : MethodName := ⟨"BlinkerCrossModel", "feed", "(IIIII)I"⟩
abbrev Y_M_feed : Yt := (prog_14_method_3_code, 6, "BlinkerCrossModel", 1, (some .int), "feed")
theorem d_M_feed_0 : decode prog_14_method_3_code 0 = .ok (.aload_n 0, 1) := by decide +kernel
theorem d_M_feed_1 : decode prog_14_method_3_code 1 = .ok (.getfield 175, 3) := by decide +kernel
theorem d_M_feed_4 : decode prog_14_method_3_code 4 = .ok (.bipush 20, 2) := by decide +kernel
theorem d_M_feed_6 : decode prog_14_method_3_code 6 = .ok (.iadd, 1) := by decide +kernel
theorem d_M_feed_7 : decode prog_14_method_3_code 7 = .ok (.sipush 2000, 3) := by decide +kernel
theorem d_M_feed_10 : decode prog_14_method_3_code 10 = .ok (.if_icmp .le 5, 3) := by decide +kernel
theorem d_M_feed_13 : decode prog_14_method_3_code 13 = .ok (.iconst (-1), 1) := by decide +kernel
theorem d_M_feed_14 : decode prog_14_method_3_code 14 = .ok (.ireturn, 1) := by decide +kernel
theorem d_M_feed_15 : decode prog_14_method_3_code 15 = .ok (.aload_n 0, 1) := by decide +kernel
theorem d_M_feed_16 : decode prog_14_method_3_code 16 = .ok (.iload_n 1, 1) := by decide +kernel
theorem d_M_feed_17 : decode prog_14_method_3_code 17 = .ok (.invokevirtual 178, 3) := by decide +kernel
theorem d_M_feed_20 : decode prog_14_method_3_code 20 = .ok (.aload_n 0, 1) := by decide +kernel
theorem d_M_feed_21 : decode prog_14_method_3_code 21 = .ok (.iload_n 2, 1) := by decide +kernel
theorem d_M_feed_22 : decode prog_14_method_3_code 22 = .ok (.invokevirtual 178, 3) := by decide +kernel
theorem d_M_feed_25 : decode prog_14_method_3_code 25 = .ok (.aload_n 0, 1) := by decide +kernel
theorem d_M_feed_26 : decode prog_14_method_3_code 26 = .ok (.iload_n 3, 1) := by decide +kernel
theorem d_M_feed_27 : decode prog_14_method_3_code 27 = .ok (.invokevirtual 178, 3) := by decide +kernel
theorem d_M_feed_30 : decode prog_14_method_3_code 30 = .ok (.aload_n 0, 1) := by decide +kernel
theorem d_M_feed_31 : decode prog_14_method_3_code 31 = .ok (.iload 4, 2) := by decide +kernel
theorem d_M_feed_33 : decode prog_14_method_3_code 33 = .ok (.invokevirtual 178, 3) := by decide +kernel
theorem d_M_feed_36 : decode prog_14_method_3_code 36 = .ok (.aload_n 0, 1) := by decide +kernel
theorem d_M_feed_37 : decode prog_14_method_3_code 37 = .ok (.iload 5, 2) := by decide +kernel
theorem d_M_feed_39 : decode prog_14_method_3_code 39 = .ok (.invokevirtual 178, 3) := by decide +kernel
theorem d_M_feed_42 : decode prog_14_method_3_code 42 = .ok (.aload_n 0, 1) := by decide +kernel
theorem d_M_feed_43 : decode prog_14_method_3_code 43 = .ok (.getfield 175, 3) := by decide +kernel
theorem d_M_feed_46 : decode prog_14_method_3_code 46 = .ok (.ireturn, 1) := by decide +kernel
noncomputable def F_M_feed : Sm := sSeq (sIf (o2 (fun x y => decide (x > y)) (o2 (fun x y => x + y) (gI 12 2 (vR 0)) (kI (ii 20))) (kI (ii 2000))) (sRet (asV Value.int (kI (ii (-1))))) (sSkip)) (sSeq (sCall (mV 12 D_M_lays) [asV Value.ref (vR 0), asV Value.int (vI 1)]) (sSeq (sCall (mV 12 D_M_lays) [asV Value.ref (vR 0), asV Value.int (vI 2)]) (sSeq (sCall (mV 12 D_M_lays) [asV Value.ref (vR 0), asV Value.int (vI 3)]) (sSeq (sCall (mV 12 D_M_lays) [asV Value.ref (vR 0), asV Value.int (vI 4)]) (sSeq (sCall (mV 12 D_M_lays) [asV Value.ref (vR 0), asV Value.int (vI 5)]) (sRet (asV Value.int (gI 12 2 (vR 0)))))))))
theorem mf_M_feed : Mf y_M_feed prog_14_method_3_code 6 (some .int) 5 := ⟨tw_1583, tw_134, by decide +kernel⟩
noncomputable def D_M_feed : Dn := runS [1, 1, 1, 1, 1, 1] F_M_feed
theorem ok_M_feed : MOK y_M_feed prog_14_method_3_code 6 (some .int) 1 0 0 D_M_feed := MOK.of (by decide) (by decide) (show SO Y_M_feed [(0, 1), (1, 1), (2, 1), (3, 1), (4, 1), (5, 1)] [(0, 1), (1, 1), (2, 1), (3, 1), (4, 1), (5, 1)] 0 47 (([], 0), ([], 0)) F_M_feed from
  (s_seq (sl1 := [(0, 1), (1, 1), (2, 1), (3, 1), (4, 1), (5, 1)]) (p1 := 15) (s_if (pt := 13) (pf := 15) (c_icmp_leF (p1 := 7) (p2 := 10) (tg := 15) (e_iadd (p1 := 4) (p2 := 6) (e_gI (k0 := 2) (p1 := 1) cf_12 (e_aload_n (k0 := 0) d_M_feed_0 rfl rfl) (by decide) tw_1362 d_M_feed_1) (e_bipush d_M_feed_4 (by decide)) d_M_feed_6) (e_sipush d_M_feed_7 (by decide)) d_M_feed_10 rfl) (s_ret (p1 := 14) (e_iconst d_M_feed_13 (by decide)) rfl d_M_feed_14) s_skip) (s_seq (sl1 := [(0, 1), (1, 1), (2, 1), (3, 1), (4, 1), (5, 1)]) (p1 := 20) (s_call (p1 := 17) (a_cons (ι := Value.ref) (k0 := 1) (p1 := 16) (fun _ => rfl) (e_aload_n (k0 := 0) d_M_feed_15 rfl rfl) (a_cons (ι := Value.int) (k0 := 1) (p1 := 17) (fun _ => rfl) (e_iload_n (k0 := 1) d_M_feed_16 rfl rfl) a_nil)) (k_virt ok_M_lays mf_M_lays ⟨tw_1586, tw_49⟩ rfl tw_1584 d_M_feed_17 (by decide) (by decide) (by decide))) (s_seq (sl1 := [(0, 1), (1, 1), (2, 1), (3, 1), (4, 1), (5, 1)]) (p1 := 25) (s_call (p1 := 22) (a_cons (ι := Value.ref) (k0 := 1) (p1 := 21) (fun _ => rfl) (e_aload_n (k0 := 0) d_M_feed_20 rfl rfl) (a_cons (ι := Value.int) (k0 := 1) (p1 := 22) (fun _ => rfl) (e_iload_n (k0 := 2) d_M_feed_21 rfl rfl) a_nil)) (k_virt ok_M_lays mf_M_lays ⟨tw_1586, tw_49⟩ rfl tw_1584 d_M_feed_22 (by decide) (by decide) (by decide))) (s_seq (sl1 := [(0, 1), (1, 1), (2, 1), (3, 1), (4, 1), (5, 1)]) (p1 := 30) (s_call (p1 := 27) (a_cons (ι := Value.ref) (k0 := 1) (p1 := 26) (fun _ => rfl) (e_aload_n (k0 := 0) d_M_feed_25 rfl rfl) (a_cons (ι := Value.int) (k0 := 1) (p1 := 27) (fun _ => rfl) (e_iload_n (k0 := 3) d_M_feed_26 rfl rfl) a_nil)) (k_virt ok_M_lays mf_M_lays ⟨tw_1586, tw_49⟩ rfl tw_1584 d_M_feed_27 (by decide) (by decide) (by decide))) (s_seq (sl1 := [(0, 1), (1, 1), (2, 1), (3, 1), (4, 1), (5, 1)]) (p1 := 36) (s_call (p1 := 33) (a_cons (ι := Value.ref) (k0 := 1) (p1 := 31) (fun _ => rfl) (e_aload_n (k0 := 0) d_M_feed_30 rfl rfl) (a_cons (ι := Value.int) (k0 := 1) (p1 := 33) (fun _ => rfl) (e_iload (k0 := 4) d_M_feed_31 rfl) a_nil)) (k_virt ok_M_lays mf_M_lays ⟨tw_1586, tw_49⟩ rfl tw_1584 d_M_feed_33 (by decide) (by decide) (by decide))) (s_seq (sl1 := [(0, 1), (1, 1), (2, 1), (3, 1), (4, 1), (5, 1)]) (p1 := 42) (s_call (p1 := 39) (a_cons (ι := Value.ref) (k0 := 1) (p1 := 37) (fun _ => rfl) (e_aload_n (k0 := 0) d_M_feed_36 rfl rfl) (a_cons (ι := Value.int) (k0 := 1) (p1 := 39) (fun _ => rfl) (e_iload (k0 := 5) d_M_feed_37 rfl) a_nil)) (k_virt ok_M_lays mf_M_lays ⟨tw_1586, tw_49⟩ rfl tw_1584 d_M_feed_39 (by decide) (by decide) (by decide))) (s_ret (p1 := 46) (e_gI (k0 := 2) (p1 := 43) cf_12 (e_aload_n (k0 := 0) d_M_feed_42 rfl rfl) (by decide) tw_1362 d_M_feed_43) rfl d_M_feed_46))))))))
/-! BlinkerCrossModel.back(I)I -/
abbrev y_M_back : MethodName := ⟨"BlinkerCrossModel", "back", "(I)I"⟩
abbrev Y_M_back : Yt := (prog_14_method_5_code, 2, "BlinkerCrossModel", 0, (some .int), "back")
theorem d_M_back_0 : decode prog_14_method_5_code 0 = .ok (.iload_n 1, 1) := by decide +kernel
theorem d_M_back_1 : decode prog_14_method_5_code 1 = .ok (.ifCond .lt 11, 3) := by decide +kernel
theorem d_M_back_4 : decode prog_14_method_5_code 4 = .ok (.iload_n 1, 1) := by decide +kernel
theorem d_M_back_5 : decode prog_14_method_5_code 5 = .ok (.aload_n 0, 1) := by decide +kernel
theorem d_M_back_6 : decode prog_14_method_5_code 6 = .ok (.getfield 175, 3) := by decide +kernel
theorem d_M_back_9 : decode prog_14_method_5_code 9 = .ok (.if_icmp .le 5, 3) := by decide +kernel
theorem d_M_back_12 : decode prog_14_method_5_code 12 = .ok (.iconst (-1), 1) := by decide +kernel
theorem d_M_back_13 : decode prog_14_method_5_code 13 = .ok (.ireturn, 1) := by decide +kernel
theorem d_M_back_14 : decode prog_14_method_5_code 14 = .ok (.aload_n 0, 1) := by decide +kernel
theorem d_M_back_15 : decode prog_14_method_5_code 15 = .ok (.dup, 1) := by decide +kernel
theorem d_M_back_16 : decode prog_14_method_5_code 16 = .ok (.getfield 175, 3) := by decide +kernel
theorem d_M_back_19 : decode prog_14_method_5_code 19 = .ok (.iload_n 1, 1) := by decide +kernel
theorem d_M_back_20 : decode prog_14_method_5_code 20 = .ok (.isub, 1) := by decide +kernel
theorem d_M_back_21 : decode prog_14_method_5_code 21 = .ok (.putfield 175, 3) := by decide +kernel
theorem d_M_back_24 : decode prog_14_method_5_code 24 = .ok (.aload_n 0, 1) := by decide +kernel
theorem d_M_back_25 : decode prog_14_method_5_code 25 = .ok (.getfield 175, 3) := by decide +kernel
theorem d_M_back_28 : decode prog_14_method_5_code 28 = .ok (.ireturn, 1) := by decide +kernel
noncomputable def F_M_back : Sm := sSeq (sIf (cOr (o1 (fun x => decide (x < 0)) (vI 1)) (o2 (fun x y => decide (x > y)) (vI 1) (gI 12 2 (vR 0)))) (sRet (asV Value.int (kI (ii (-1))))) (sSkip)) (sSeq (sFop 12 2 (vR 0) (fun x y => x - y) (vI 1)) (sRet (asV Value.int (gI 12 2 (vR 0)))))
theorem mf_M_back : Mf y_M_back prog_14_method_5_code 2 (some .int) 1 := ⟨tw_1591, tw_134, by decide +kernel⟩
noncomputable def D_M_back : Dn := runS [1, 1] F_M_back
theorem ok_M_back : MOK y_M_back prog_14_method_5_code 2 (some .int) 0 0 0 D_M_back := MOK.of (by decide) (by decide) (show SO Y_M_back [(0, 1), (1, 1)] [(0, 1), (1, 1)] 0 29 (([], 0), ([], 0)) F_M_back from
  (s_seq (sl1 := [(0, 1), (1, 1)]) (p1 := 14) (s_if (pt := 12) (pf := 14) (c_or (p1 := 4) (c_if_ltT (p1 := 1) (tg := 12) (e_iload_n (k0 := 1) d_M_back_0 rfl rfl) d_M_back_1 rfl) (c_icmp_leF (p1 := 5) (p2 := 9) (tg := 14) (e_iload_n (k0 := 1) d_M_back_4 rfl rfl) (e_gI (k0 := 2) (p1 := 6) cf_12 (e_aload_n (k0 := 0) d_M_back_5 rfl rfl) (by decide) tw_1362 d_M_back_6) d_M_back_9 rfl)) (s_ret (p1 := 13) (e_iconst d_M_back_12 (by decide)) rfl d_M_back_13) s_skip) (s_seq (sl1 := [(0, 1), (1, 1)]) (p1 := 24) (s_fop (k0 := 2) (p1 := 15) (p2 := 20) cf_12 (e_aload_n (k0 := 0) d_M_back_14 rfl rfl) d_M_back_15 d_M_back_16 (e_iload_n (k0 := 1) d_M_back_19 rfl rfl) (op_isub d_M_back_20) (by decide) rfl tw_1362 tw_1362 rfl d_M_back_21) (s_ret (p1 := 28) (e_gI (k0 := 2) (p1 := 25) cf_12 (e_aload_n (k0 := 0) d_M_back_24 rfl rfl) (by decide) tw_1362 d_M_back_25) rfl d_M_back_28))))
/-! BlinkerCrossModel.byteAt(I)I -/
abbrev y_M_byteAt : MethodName := ⟨"BlinkerCrossModel", "byteAt", "(I)I"⟩
abbrev Y_M_byteAt : Yt := (prog_14_method_6_code, 2, "BlinkerCrossModel", 0, (some .int), "byteAt")
theorem d_M_byteAt_0 : decode prog_14_method_6_code 0 = .ok (.iload_n 1, 1) := by decide +kernel
theorem d_M_byteAt_1 : decode prog_14_method_6_code 1 = .ok (.aload_n 0, 1) := by decide +kernel
theorem d_M_byteAt_2 : decode prog_14_method_6_code 2 = .ok (.getfield 181, 3) := by decide +kernel
theorem d_M_byteAt_5 : decode prog_14_method_6_code 5 = .ok (.if_icmp .ge 16, 3) := by decide +kernel
theorem d_M_byteAt_8 : decode prog_14_method_6_code 8 = .ok (.aload_n 0, 1) := by decide +kernel
theorem d_M_byteAt_9 : decode prog_14_method_6_code 9 = .ok (.getfield 17, 3) := by decide +kernel
theorem d_M_byteAt_12 : decode prog_14_method_6_code 12 = .ok (.iload_n 1, 1) := by decide +kernel
theorem d_M_byteAt_13 : decode prog_14_method_6_code 13 = .ok (.baload, 1) := by decide +kernel
theorem d_M_byteAt_14 : decode prog_14_method_6_code 14 = .ok (.sipush 255, 3) := by decide +kernel
theorem d_M_byteAt_17 : decode prog_14_method_6_code 17 = .ok (.iand, 1) := by decide +kernel
theorem d_M_byteAt_18 : decode prog_14_method_6_code 18 = .ok (.goto 4, 3) := by decide +kernel
theorem d_M_byteAt_21 : decode prog_14_method_6_code 21 = .ok (.iconst 0, 1) := by decide +kernel
theorem d_M_byteAt_22 : decode prog_14_method_6_code 22 = .ok (.ireturn, 1) := by decide +kernel
noncomputable def F_M_byteAt : Sm := sRet (asV Value.int (iX (o2 (fun x y => decide (x < y)) (vI 1) (gI 12 4 (vR 0))) (o2 (fun x y => x &&& y) (aI 1 (gR 12 3 (vR 0)) (vI 1)) (kI (ii 255))) (kI (ii 0))))
theorem mf_M_byteAt : Mf y_M_byteAt prog_14_method_6_code 2 (some .int) 1 := ⟨tw_1603, tw_134, by decide +kernel⟩
noncomputable def D_M_byteAt : Dn := runS [1, 1] F_M_byteAt
theorem ok_M_byteAt : MOK y_M_byteAt prog_14_method_6_code 2 (some .int) 0 0 0 D_M_byteAt := MOK.of (by decide) (by decide) (show SO Y_M_byteAt [(0, 1), (1, 1)] [(0, 1), (1, 1)] 0 23 (([], 0), ([], 0)) F_M_byteAt from
  (s_ret (p1 := 22) (e_ite (pt := 8) (p1 := 18) (pf := 21) (c_icmp_geF (p1 := 1) (p2 := 5) (tg := 21) (e_iload_n (k0 := 1) d_M_byteAt_0 rfl rfl) (e_gI (k0 := 4) (p1 := 2) cf_12 (e_aload_n (k0 := 0) d_M_byteAt_1 rfl rfl) (by decide) tw_1364 d_M_byteAt_2) d_M_byteAt_5 rfl) (e_iand (p1 := 14) (p2 := 17) (e_bald (p1 := 12) (p2 := 13) (e_gR (k0 := 3) (p1 := 9) cf_12 (e_aload_n (k0 := 0) d_M_byteAt_8 rfl rfl) (by decide) tw_1363 d_M_byteAt_9) (e_iload_n (k0 := 1) d_M_byteAt_12 rfl rfl) d_M_byteAt_13) (e_sipush d_M_byteAt_14 (by decide)) d_M_byteAt_17) d_M_byteAt_18 rfl (e_iconst d_M_byteAt_21 (by decide))) rfl d_M_byteAt_22))
/-! BlinkerCrossModel.isDigit(I)Z -/
abbrev y_M_isDigit : MethodName := ⟨"BlinkerCrossModel", "isDigit", "(I)Z"⟩
abbrev Y_M_isDigit : Yt := (prog_14_method_7_code, 1, "BlinkerCrossModel", 0, (some .boolean), "isDigit")
theorem d_M_isDigit_0 : decode prog_14_method_7_code 0 = .ok (.iload_n 0, 1) := by decide +kernel
theorem d_M_isDigit_1 : decode prog_14_method_7_code 1 = .ok (.bipush 48, 2) := by decide +kernel
theorem d_M_isDigit_3 : decode prog_14_method_7_code 3 = .ok (.if_icmp .lt 13, 3) := by decide +kernel
theorem d_M_isDigit_6 : decode prog_14_method_7_code 6 = .ok (.iload_n 0, 1) := by decide +kernel
theorem d_M_isDigit_7 : decode prog_14_method_7_code 7 = .ok (.bipush 57, 2) := by decide +kernel
theorem d_M_isDigit_9 : decode prog_14_method_7_code 9 = .ok (.if_icmp .gt 7, 3) := by decide +kernel
theorem d_M_isDigit_12 : decode prog_14_method_7_code 12 = .ok (.iconst 1, 1) := by decide +kernel
theorem d_M_isDigit_13 : decode prog_14_method_7_code 13 = .ok (.goto 4, 3) := by decide +kernel
theorem d_M_isDigit_16 : decode prog_14_method_7_code 16 = .ok (.iconst 0, 1) := by decide +kernel
theorem d_M_isDigit_17 : decode prog_14_method_7_code 17 = .ok (.ireturn, 1) := by decide +kernel
noncomputable def F_M_isDigit : Sm := sRetZ (bX (cAnd (o2 (fun x y => decide (x ≥ y)) (vI 0) (kI (ii 48))) (o2 (fun x y => decide (x ≤ y)) (vI 0) (kI (ii 57)))))
theorem mf_M_isDigit : Mf y_M_isDigit prog_14_method_7_code 1 (some .boolean) 1 := ⟨tw_1613, tw_134, by decide +kernel⟩
noncomputable def D_M_isDigit : Dn := runS [1] F_M_isDigit
theorem ok_M_isDigit : MOK y_M_isDigit prog_14_method_7_code 1 (some .boolean) 0 0 0 D_M_isDigit := MOK.of (by decide) (by decide) (show SO Y_M_isDigit [(0, 1)] [(0, 1)] 0 18 (([], 0), ([], 0)) F_M_isDigit from
  (s_retZ (p1 := 17) (e_bool (pt := 12) (pf := 16) (c_and (p1 := 6) (c_icmp_ltF (p1 := 1) (p2 := 3) (tg := 16) (e_iload_n (k0 := 0) d_M_isDigit_0 rfl rfl) (e_bipush d_M_isDigit_1 (by decide)) d_M_isDigit_3 rfl) (c_icmp_gtF (p1 := 7) (p2 := 9) (tg := 16) (e_iload_n (k0 := 0) d_M_isDigit_6 rfl rfl) (e_bipush d_M_isDigit_7 (by decide)) d_M_isDigit_9 rfl)) d_M_isDigit_12 d_M_isDigit_13 rfl d_M_isDigit_16 rfl) rfl d_M_isDigit_17))
/-! BlinkerCrossModel.isLetter(I)Z -/
abbrev y_M_isLetter : MethodName := ⟨"BlinkerCrossModel", "isLetter", "(I)Z"⟩
abbrev Y_M_isLetter : Yt := (prog_14_method_8_code, 1, "BlinkerCrossModel", 0, (some .boolean), "isLetter")
theorem d_M_isLetter_0 : decode prog_14_method_8_code 0 = .ok (.iload_n 0, 1) := by decide +kernel
theorem d_M_isLetter_1 : decode prog_14_method_8_code 1 = .ok (.bipush 97, 2) := by decide +kernel
theorem d_M_isLetter_3 : decode prog_14_method_8_code 3 = .ok (.if_icmp .lt 13, 3) := by decide +kernel
theorem d_M_isLetter_6 : decode prog_14_method_8_code 6 = .ok (.iload_n 0, 1) := by decide +kernel
theorem d_M_isLetter_7 : decode prog_14_method_8_code 7 = .ok (.bipush 122, 2) := by decide +kernel
theorem d_M_isLetter_9 : decode prog_14_method_8_code 9 = .ok (.if_icmp .gt 7, 3) := by decide +kernel
theorem d_M_isLetter_12 : decode prog_14_method_8_code 12 = .ok (.iconst 1, 1) := by decide +kernel
theorem d_M_isLetter_13 : decode prog_14_method_8_code 13 = .ok (.goto 4, 3) := by decide +kernel
theorem d_M_isLetter_16 : decode prog_14_method_8_code 16 = .ok (.iconst 0, 1) := by decide +kernel
theorem d_M_isLetter_17 : decode prog_14_method_8_code 17 = .ok (.ireturn, 1) := by decide +kernel
noncomputable def F_M_isLetter : Sm := sRetZ (bX (cAnd (o2 (fun x y => decide (x ≥ y)) (vI 0) (kI (ii 97))) (o2 (fun x y => decide (x ≤ y)) (vI 0) (kI (ii 122)))))
theorem mf_M_isLetter : Mf y_M_isLetter prog_14_method_8_code 1 (some .boolean) 1 := ⟨tw_1610, tw_134, by decide +kernel⟩
noncomputable def D_M_isLetter : Dn := runS [1] F_M_isLetter
theorem ok_M_isLetter : MOK y_M_isLetter prog_14_method_8_code 1 (some .boolean) 0 0 0 D_M_isLetter := MOK.of (by decide) (by decide) (show SO Y_M_isLetter [(0, 1)] [(0, 1)] 0 18 (([], 0), ([], 0)) F_M_isLetter from
  (s_retZ (p1 := 17) (e_bool (pt := 12) (pf := 16) (c_and (p1 := 6) (c_icmp_ltF (p1 := 1) (p2 := 3) (tg := 16) (e_iload_n (k0 := 0) d_M_isLetter_0 rfl rfl) (e_bipush d_M_isLetter_1 (by decide)) d_M_isLetter_3 rfl) (c_icmp_gtF (p1 := 7) (p2 := 9) (tg := 16) (e_iload_n (k0 := 0) d_M_isLetter_6 rfl rfl) (e_bipush d_M_isLetter_7 (by decide)) d_M_isLetter_9 rfl)) d_M_isLetter_12 d_M_isLetter_13 rfl d_M_isLetter_16 rfl) rfl d_M_isLetter_17))
/-! BlinkerCrossModel.appends(JI)J -/
abbrev y_M_appends : MethodName := ⟨"BlinkerCrossModel", "appends", "(JI)J"⟩
abbrev Y_M_appends : Yt := (prog_14_method_9_code, 3, "BlinkerCrossModel", 0, (some .long), "appends")
theorem d_M_appends_0 : decode prog_14_method_9_code 0 = .ok (.iload_n 2, 1) := by decide +kernel
theorem d_M_appends_1 : decode prog_14_method_9_code 1 = .ok (.ifCond .ne 7, 3) := by decide +kernel
theorem d_M_appends_4 : decode prog_14_method_9_code 4 = .ok (.lload_n 0, 1) := by decide +kernel
theorem d_M_appends_5 : decode prog_14_method_9_code 5 = .ok (.goto 16, 3) := by decide +kernel
theorem d_M_appends_8 : decode prog_14_method_9_code 8 = .ok (.ldc2_w 184, 3) := by decide +kernel
theorem d_M_appends_11 : decode prog_14_method_9_code 11 = .ok (.lload_n 0, 1) := by decide +kernel
theorem d_M_appends_12 : decode prog_14_method_9_code 12 = .ok (.lmul, 1) := by decide +kernel
theorem d_M_appends_13 : decode prog_14_method_9_code 13 = .ok (.iload_n 2, 1) := by decide +kernel
theorem d_M_appends_14 : decode prog_14_method_9_code 14 = .ok (.bipush 97, 2) := by decide +kernel
theorem d_M_appends_16 : decode prog_14_method_9_code 16 = .ok (.isub, 1) := by decide +kernel
theorem d_M_appends_17 : decode prog_14_method_9_code 17 = .ok (.iconst 1, 1) := by decide +kernel
theorem d_M_appends_18 : decode prog_14_method_9_code 18 = .ok (.iadd, 1) := by decide +kernel
theorem d_M_appends_19 : decode prog_14_method_9_code 19 = .ok (.i2l, 1) := by decide +kernel
theorem d_M_appends_20 : decode prog_14_method_9_code 20 = .ok (.ladd, 1) := by decide +kernel
theorem d_M_appends_21 : decode prog_14_method_9_code 21 = .ok (.lreturn, 1) := by decide +kernel
noncomputable def F_M_appends : Sm := sRet (asV Value.long (iX (o1 (fun x => decide (x = 0)) (vI 1)) (vL 0) (o2 (fun x y => x + y) (o2 (fun x y => x * y) (kL 27) (vL 0)) (o1 (fun x => x.toInt64) (o2 (fun x y => x + y) (o2 (fun x y => x - y) (vI 1) (kI (ii 97))) (kI (ii 1)))))))
theorem mf_M_appends : Mf y_M_appends prog_14_method_9_code 3 (some .long) 2 := ⟨tw_1351, tw_134, by decide +kernel⟩
noncomputable def D_M_appends : Dn := runS [2, 1] F_M_appends
theorem ok_M_appends : MOK y_M_appends prog_14_method_9_code 3 (some .long) 0 0 0 D_M_appends := MOK.of (by decide) (by decide) (show SO Y_M_appends [(0, 2), (2, 1)] [(0, 2), (2, 1)] 0 22 (([], 0), ([], 0)) F_M_appends from
  (s_retL (p1 := 21) (e_ite (pt := 4) (p1 := 5) (pf := 8) (c_if_neF (p1 := 1) (tg := 8) (e_iload_n (k0 := 1) d_M_appends_0 rfl rfl) d_M_appends_1 rfl) (e_lload_n (k0 := 0) d_M_appends_4 rfl rfl) d_M_appends_5 rfl (e_ladd (p1 := 13) (p2 := 20) (e_lmul (p1 := 11) (p2 := 12) (e_ldc2 d_M_appends_8 tw_1352) (e_lload_n (k0 := 0) d_M_appends_11 rfl rfl) d_M_appends_12) (e_i2l (p1 := 19) (e_iadd (p1 := 17) (p2 := 18) (e_isub (p1 := 14) (p2 := 16) (e_iload_n (k0 := 1) d_M_appends_13 rfl rfl) (e_bipush d_M_appends_14 (by decide)) d_M_appends_16) (e_iconst d_M_appends_17 (by decide)) d_M_appends_18) d_M_appends_19) d_M_appends_20)) rfl d_M_appends_21))
/-! BlinkerCrossModel.letters(IIIIIII)J -/
abbrev y_M_letters : MethodName := ⟨"BlinkerCrossModel", "letters", "(IIIIIII)J"⟩
abbrev Y_M_letters : Yt := (prog_14_method_10_code, 7, "BlinkerCrossModel", 1, (some .long), "letters")
theorem d_M_letters_0 : decode prog_14_method_10_code 0 = .ok (.lconst 0, 1) := by decide +kernel
theorem d_M_letters_1 : decode prog_14_method_10_code 1 = .ok (.iload_n 0, 1) := by decide +kernel
theorem d_M_letters_2 : decode prog_14_method_10_code 2 = .ok (.invokestatic 186, 3) := by decide +kernel
theorem d_M_letters_5 : decode prog_14_method_10_code 5 = .ok (.iload_n 1, 1) := by decide +kernel
theorem d_M_letters_6 : decode prog_14_method_10_code 6 = .ok (.invokestatic 186, 3) := by decide +kernel
theorem d_M_letters_9 : decode prog_14_method_10_code 9 = .ok (.iload_n 2, 1) := by decide +kernel
theorem d_M_letters_10 : decode prog_14_method_10_code 10 = .ok (.invokestatic 186, 3) := by decide +kernel
theorem d_M_letters_13 : decode prog_14_method_10_code 13 = .ok (.iload_n 3, 1) := by decide +kernel
theorem d_M_letters_14 : decode prog_14_method_10_code 14 = .ok (.invokestatic 186, 3) := by decide +kernel
theorem d_M_letters_17 : decode prog_14_method_10_code 17 = .ok (.iload 4, 2) := by decide +kernel
theorem d_M_letters_19 : decode prog_14_method_10_code 19 = .ok (.invokestatic 186, 3) := by decide +kernel
theorem d_M_letters_22 : decode prog_14_method_10_code 22 = .ok (.iload 5, 2) := by decide +kernel
theorem d_M_letters_24 : decode prog_14_method_10_code 24 = .ok (.invokestatic 186, 3) := by decide +kernel
theorem d_M_letters_27 : decode prog_14_method_10_code 27 = .ok (.iload 6, 2) := by decide +kernel
theorem d_M_letters_29 : decode prog_14_method_10_code 29 = .ok (.invokestatic 186, 3) := by decide +kernel
theorem d_M_letters_32 : decode prog_14_method_10_code 32 = .ok (.lreturn, 1) := by decide +kernel
noncomputable def F_M_letters : Sm := sRet (asV Value.long (cL (D_M_appends) [asV Value.long (cL (D_M_appends) [asV Value.long (cL (D_M_appends) [asV Value.long (cL (D_M_appends) [asV Value.long (cL (D_M_appends) [asV Value.long (cL (D_M_appends) [asV Value.long (cL (D_M_appends) [asV Value.long (kL 0), asV Value.int (vI 0)]), asV Value.int (vI 1)]), asV Value.int (vI 2)]), asV Value.int (vI 3)]), asV Value.int (vI 4)]), asV Value.int (vI 5)]), asV Value.int (vI 6)]))
theorem mf_M_letters : Mf y_M_letters prog_14_method_10_code 7 (some .long) 7 := ⟨tw_1348, tw_134, by decide +kernel⟩
noncomputable def D_M_letters : Dn := runS [1, 1, 1, 1, 1, 1, 1] F_M_letters
theorem ok_M_letters : MOK y_M_letters prog_14_method_10_code 7 (some .long) 1 0 0 D_M_letters := MOK.of (by decide) (by decide) (show SO Y_M_letters [(0, 1), (1, 1), (2, 1), (3, 1), (4, 1), (5, 1), (6, 1)] [(0, 1), (1, 1), (2, 1), (3, 1), (4, 1), (5, 1), (6, 1)] 0 33 (([], 0), ([], 0)) F_M_letters from
  (s_retL (p1 := 32) (e_cL (p1 := 29) (a_cons (ι := Value.long) (k0 := 2) (p1 := 27) (fun _ => rfl) (e_cL (p1 := 24) (a_cons (ι := Value.long) (k0 := 2) (p1 := 22) (fun _ => rfl) (e_cL (p1 := 19) (a_cons (ι := Value.long) (k0 := 2) (p1 := 17) (fun _ => rfl) (e_cL (p1 := 14) (a_cons (ι := Value.long) (k0 := 2) (p1 := 13) (fun _ => rfl) (e_cL (p1 := 10) (a_cons (ι := Value.long) (k0 := 2) (p1 := 9) (fun _ => rfl) (e_cL (p1 := 6) (a_cons (ι := Value.long) (k0 := 2) (p1 := 5) (fun _ => rfl) (e_cL (p1 := 2) (a_cons (ι := Value.long) (k0 := 2) (p1 := 1) (fun _ => rfl) (e_lconst d_M_letters_0 rfl) (a_cons (ι := Value.int) (k0 := 1) (p1 := 2) (fun _ => rfl) (e_iload_n (k0 := 0) d_M_letters_1 rfl rfl) a_nil)) (k_stat ok_M_appends mf_M_appends tw_1350 tw_1349 d_M_letters_2 (by decide) (by decide) (by decide))) (a_cons (ι := Value.int) (k0 := 1) (p1 := 6) (fun _ => rfl) (e_iload_n (k0 := 1) d_M_letters_5 rfl rfl) a_nil)) (k_stat ok_M_appends mf_M_appends tw_1350 tw_1349 d_M_letters_6 (by decide) (by decide) (by decide))) (a_cons (ι := Value.int) (k0 := 1) (p1 := 10) (fun _ => rfl) (e_iload_n (k0 := 2) d_M_letters_9 rfl rfl) a_nil)) (k_stat ok_M_appends mf_M_appends tw_1350 tw_1349 d_M_letters_10 (by decide) (by decide) (by decide))) (a_cons (ι := Value.int) (k0 := 1) (p1 := 14) (fun _ => rfl) (e_iload_n (k0 := 3) d_M_letters_13 rfl rfl) a_nil)) (k_stat ok_M_appends mf_M_appends tw_1350 tw_1349 d_M_letters_14 (by decide) (by decide) (by decide))) (a_cons (ι := Value.int) (k0 := 1) (p1 := 19) (fun _ => rfl) (e_iload (k0 := 4) d_M_letters_17 rfl) a_nil)) (k_stat ok_M_appends mf_M_appends tw_1350 tw_1349 d_M_letters_19 (by decide) (by decide) (by decide))) (a_cons (ι := Value.int) (k0 := 1) (p1 := 24) (fun _ => rfl) (e_iload (k0 := 5) d_M_letters_22 rfl) a_nil)) (k_stat ok_M_appends mf_M_appends tw_1350 tw_1349 d_M_letters_24 (by decide) (by decide) (by decide))) (a_cons (ι := Value.int) (k0 := 1) (p1 := 29) (fun _ => rfl) (e_iload (k0 := 6) d_M_letters_27 rfl) a_nil)) (k_stat ok_M_appends mf_M_appends tw_1350 tw_1349 d_M_letters_29 (by decide) (by decide) (by decide))) rfl d_M_letters_32))
/-! BlinkerCrossModel.token(IIIJ)V -/
abbrev y_M_token : MethodName := ⟨"BlinkerCrossModel", "token", "(IIIJ)V"⟩
abbrev Y_M_token : Yt := (prog_14_method_11_code, 6, "BlinkerCrossModel", 0, none, "token")
theorem d_M_token_0 : decode prog_14_method_11_code 0 = .ok (.aload_n 0, 1) := by decide +kernel
theorem d_M_token_1 : decode prog_14_method_11_code 1 = .ok (.getfield 20, 3) := by decide +kernel
theorem d_M_token_4 : decode prog_14_method_11_code 4 = .ok (.aload_n 0, 1) := by decide +kernel
theorem d_M_token_5 : decode prog_14_method_11_code 5 = .ok (.getfield 190, 3) := by decide +kernel
theorem d_M_token_8 : decode prog_14_method_11_code 8 = .ok (.iload_n 1, 1) := by decide +kernel
theorem d_M_token_9 : decode prog_14_method_11_code 9 = .ok (.iastore, 1) := by decide +kernel
theorem d_M_token_10 : decode prog_14_method_11_code 10 = .ok (.aload_n 0, 1) := by decide +kernel
theorem d_M_token_11 : decode prog_14_method_11_code 11 = .ok (.getfield 24, 3) := by decide +kernel
theorem d_M_token_14 : decode prog_14_method_11_code 14 = .ok (.aload_n 0, 1) := by decide +kernel
theorem d_M_token_15 : decode prog_14_method_11_code 15 = .ok (.getfield 190, 3) := by decide +kernel
theorem d_M_token_18 : decode prog_14_method_11_code 18 = .ok (.iload_n 2, 1) := by decide +kernel
theorem d_M_token_19 : decode prog_14_method_11_code 19 = .ok (.iastore, 1) := by decide +kernel
theorem d_M_token_20 : decode prog_14_method_11_code 20 = .ok (.aload_n 0, 1) := by decide +kernel
theorem d_M_token_21 : decode prog_14_method_11_code 21 = .ok (.getfield 27, 3) := by decide +kernel
theorem d_M_token_24 : decode prog_14_method_11_code 24 = .ok (.aload_n 0, 1) := by decide +kernel
theorem d_M_token_25 : decode prog_14_method_11_code 25 = .ok (.getfield 190, 3) := by decide +kernel
theorem d_M_token_28 : decode prog_14_method_11_code 28 = .ok (.iload_n 3, 1) := by decide +kernel
theorem d_M_token_29 : decode prog_14_method_11_code 29 = .ok (.iastore, 1) := by decide +kernel
theorem d_M_token_30 : decode prog_14_method_11_code 30 = .ok (.aload_n 0, 1) := by decide +kernel
theorem d_M_token_31 : decode prog_14_method_11_code 31 = .ok (.getfield 30, 3) := by decide +kernel
theorem d_M_token_34 : decode prog_14_method_11_code 34 = .ok (.aload_n 0, 1) := by decide +kernel
theorem d_M_token_35 : decode prog_14_method_11_code 35 = .ok (.getfield 190, 3) := by decide +kernel
theorem d_M_token_38 : decode prog_14_method_11_code 38 = .ok (.lload 4, 2) := by decide +kernel
theorem d_M_token_40 : decode prog_14_method_11_code 40 = .ok (.lastore, 1) := by decide +kernel
theorem d_M_token_41 : decode prog_14_method_11_code 41 = .ok (.aload_n 0, 1) := by decide +kernel
theorem d_M_token_42 : decode prog_14_method_11_code 42 = .ok (.dup, 1) := by decide +kernel
theorem d_M_token_43 : decode prog_14_method_11_code 43 = .ok (.getfield 190, 3) := by decide +kernel
theorem d_M_token_46 : decode prog_14_method_11_code 46 = .ok (.iconst 1, 1) := by decide +kernel
theorem d_M_token_47 : decode prog_14_method_11_code 47 = .ok (.iadd, 1) := by decide +kernel
theorem d_M_token_48 : decode prog_14_method_11_code 48 = .ok (.putfield 190, 3) := by decide +kernel
theorem d_M_token_51 : decode prog_14_method_11_code 51 = .ok (.return_, 1) := by decide +kernel
noncomputable def F_M_token : Sm := sSeq (sAst 0 (gR 12 5 (vR 0)) (gI 12 10 (vR 0)) (vI 1)) (sSeq (sAst 0 (gR 12 6 (vR 0)) (gI 12 10 (vR 0)) (vI 2)) (sSeq (sAst 0 (gR 12 7 (vR 0)) (gI 12 10 (vR 0)) (vI 3)) (sSeq (sAstL (gR 12 8 (vR 0)) (gI 12 10 (vR 0)) (vL 4)) (sSeq (sFop 12 10 (vR 0) (fun x y => x + y) (kI (ii 1))) (sRetV)))))
theorem mf_M_token : Mf y_M_token prog_14_method_11_code 6 none 4 := ⟨tw_1607, tw_134, by decide +kernel⟩
noncomputable def D_M_token : Dn := runS [1, 1, 1, 1, 2] F_M_token
theorem ok_M_token : MOK y_M_token prog_14_method_11_code 6 none 0 0 0 D_M_token := MOK.of (by decide) (by decide) (show SO Y_M_token [(0, 1), (1, 1), (2, 1), (3, 1), (4, 2)] [(0, 1), (1, 1), (2, 1), (3, 1), (4, 2)] 0 52 (([], 0), ([], 0)) F_M_token from
  (s_seq (sl1 := [(0, 1), (1, 1), (2, 1), (3, 1), (4, 2)]) (p1 := 10) (s_ast (p1 := 4) (p2 := 8) (p3 := 9) (e_gR (k0 := 5) (p1 := 1) cf_12 (e_aload_n (k0 := 0) d_M_token_0 rfl rfl) (by decide) tw_1365 d_M_token_1) (e_gI (k0 := 10) (p1 := 5) cf_12 (e_aload_n (k0 := 0) d_M_token_4 rfl rfl) (by decide) tw_1370 d_M_token_5) (e_iload_n (k0 := 1) d_M_token_8 rfl rfl) (as_i d_M_token_9)) (s_seq (sl1 := [(0, 1), (1, 1), (2, 1), (3, 1), (4, 2)]) (p1 := 20) (s_ast (p1 := 14) (p2 := 18) (p3 := 19) (e_gR (k0 := 6) (p1 := 11) cf_12 (e_aload_n (k0 := 0) d_M_token_10 rfl rfl) (by decide) tw_1366 d_M_token_11) (e_gI (k0 := 10) (p1 := 15) cf_12 (e_aload_n (k0 := 0) d_M_token_14 rfl rfl) (by decide) tw_1370 d_M_token_15) (e_iload_n (k0 := 2) d_M_token_18 rfl rfl) (as_i d_M_token_19)) (s_seq (sl1 := [(0, 1), (1, 1), (2, 1), (3, 1), (4, 2)]) (p1 := 30) (s_ast (p1 := 24) (p2 := 28) (p3 := 29) (e_gR (k0 := 7) (p1 := 21) cf_12 (e_aload_n (k0 := 0) d_M_token_20 rfl rfl) (by decide) tw_1367 d_M_token_21) (e_gI (k0 := 10) (p1 := 25) cf_12 (e_aload_n (k0 := 0) d_M_token_24 rfl rfl) (by decide) tw_1370 d_M_token_25) (e_iload_n (k0 := 3) d_M_token_28 rfl rfl) (as_i d_M_token_29)) (s_seq (sl1 := [(0, 1), (1, 1), (2, 1), (3, 1), (4, 2)]) (p1 := 41) (s_astL (p1 := 34) (p2 := 38) (p3 := 40) (e_gR (k0 := 8) (p1 := 31) cf_12 (e_aload_n (k0 := 0) d_M_token_30 rfl rfl) (by decide) tw_1368 d_M_token_31) (e_gI (k0 := 10) (p1 := 35) cf_12 (e_aload_n (k0 := 0) d_M_token_34 rfl rfl) (by decide) tw_1370 d_M_token_35) (e_lload (k0 := 4) d_M_token_38 rfl) d_M_token_40) (s_seq (sl1 := [(0, 1), (1, 1), (2, 1), (3, 1), (4, 2)]) (p1 := 51) (s_fop (k0 := 10) (p1 := 42) (p2 := 47) cf_12 (e_aload_n (k0 := 0) d_M_token_41 rfl rfl) d_M_token_42 d_M_token_43 (e_iconst d_M_token_46 (by decide)) (op_iadd d_M_token_47) (by decide) rfl tw_1370 tw_1370 rfl d_M_token_48) (s_retV rfl d_M_token_51)))))))
/-! BlinkerCrossModel.sign(III)I -/
abbrev y_M_sign : MethodName := ⟨"BlinkerCrossModel", "sign", "(III)I"⟩
abbrev Y_M_sign : Yt := (prog_14_method_13_code, 5, "BlinkerCrossModel", 1, (some .int), "sign")
theorem d_M_sign_0 : decode prog_14_method_13_code 0 = .ok (.iload_n 2, 1) := by decide +kernel
theorem d_M_sign_1 : decode prog_14_method_13_code 1 = .ok (.bipush 59, 2) := by decide +kernel
theorem d_M_sign_3 : decode prog_14_method_13_code 3 = .ok (.if_icmp .ne 7, 3) := by decide +kernel
theorem d_M_sign_6 : decode prog_14_method_13_code 6 = .ok (.iconst 4, 1) := by decide +kernel
theorem d_M_sign_7 : decode prog_14_method_13_code 7 = .ok (.goto 36, 3) := by decide +kernel
theorem d_M_sign_10 : decode prog_14_method_13_code 10 = .ok (.iload_n 2, 1) := by decide +kernel
theorem d_M_sign_11 : decode prog_14_method_13_code 11 = .ok (.bipush 61, 2) := by decide +kernel
theorem d_M_sign_13 : decode prog_14_method_13_code 13 = .ok (.if_icmp .ne 7, 3) := by decide +kernel
theorem d_M_sign_16 : decode prog_14_method_13_code 16 = .ok (.iconst 5, 1) := by decide +kernel
theorem d_M_sign_17 : decode prog_14_method_13_code 17 = .ok (.goto 26, 3) := by decide +kernel
theorem d_M_sign_20 : decode prog_14_method_13_code 20 = .ok (.iload_n 2, 1) := by decide +kernel
theorem d_M_sign_21 : decode prog_14_method_13_code 21 = .ok (.bipush 40, 2) := by decide +kernel
theorem d_M_sign_23 : decode prog_14_method_13_code 23 = .ok (.if_icmp .ne 8, 3) := by decide +kernel
theorem d_M_sign_26 : decode prog_14_method_13_code 26 = .ok (.bipush 6, 2) := by decide +kernel
theorem d_M_sign_28 : decode prog_14_method_13_code 28 = .ok (.goto 15, 3) := by decide +kernel
theorem d_M_sign_31 : decode prog_14_method_13_code 31 = .ok (.iload_n 2, 1) := by decide +kernel
theorem d_M_sign_32 : decode prog_14_method_13_code 32 = .ok (.bipush 41, 2) := by decide +kernel
theorem d_M_sign_34 : decode prog_14_method_13_code 34 = .ok (.if_icmp .ne 8, 3) := by decide +kernel
theorem d_M_sign_37 : decode prog_14_method_13_code 37 = .ok (.bipush 7, 2) := by decide +kernel
theorem d_M_sign_39 : decode prog_14_method_13_code 39 = .ok (.goto 4, 3) := by decide +kernel
theorem d_M_sign_42 : decode prog_14_method_13_code 42 = .ok (.iconst 3, 1) := by decide +kernel
theorem d_M_sign_43 : decode prog_14_method_13_code 43 = .ok (.istore 4, 2) := by decide +kernel
theorem d_M_sign_45 : decode prog_14_method_13_code 45 = .ok (.iload_n 2, 1) := by decide +kernel
theorem d_M_sign_46 : decode prog_14_method_13_code 46 = .ok (.bipush 43, 2) := by decide +kernel
theorem d_M_sign_48 : decode prog_14_method_13_code 48 = .ok (.if_icmp .ne 7, 3) := by decide +kernel
theorem d_M_sign_51 : decode prog_14_method_13_code 51 = .ok (.bipush 8, 2) := by decide +kernel
theorem d_M_sign_53 : decode prog_14_method_13_code 53 = .ok (.istore 4, 2) := by decide +kernel
theorem d_M_sign_55 : decode prog_14_method_13_code 55 = .ok (.iload_n 2, 1) := by decide +kernel
theorem d_M_sign_56 : decode prog_14_method_13_code 56 = .ok (.bipush 45, 2) := by decide +kernel
theorem d_M_sign_58 : decode prog_14_method_13_code 58 = .ok (.if_icmp .ne 7, 3) := by decide +kernel
theorem d_M_sign_61 : decode prog_14_method_13_code 61 = .ok (.bipush 9, 2) := by decide +kernel
theorem d_M_sign_63 : decode prog_14_method_13_code 63 = .ok (.istore 4, 2) := by decide +kernel
theorem d_M_sign_65 : decode prog_14_method_13_code 65 = .ok (.iload_n 2, 1) := by decide +kernel
theorem d_M_sign_66 : decode prog_14_method_13_code 66 = .ok (.bipush 42, 2) := by decide +kernel
theorem d_M_sign_68 : decode prog_14_method_13_code 68 = .ok (.if_icmp .ne 7, 3) := by decide +kernel
theorem d_M_sign_71 : decode prog_14_method_13_code 71 = .ok (.bipush 10, 2) := by decide +kernel
theorem d_M_sign_73 : decode prog_14_method_13_code 73 = .ok (.istore 4, 2) := by decide +kernel
theorem d_M_sign_75 : decode prog_14_method_13_code 75 = .ok (.iload_n 2, 1) := by decide +kernel
theorem d_M_sign_76 : decode prog_14_method_13_code 76 = .ok (.bipush 47, 2) := by decide +kernel
theorem d_M_sign_78 : decode prog_14_method_13_code 78 = .ok (.if_icmp .ne 7, 3) := by decide +kernel
theorem d_M_sign_81 : decode prog_14_method_13_code 81 = .ok (.bipush 15, 2) := by decide +kernel
theorem d_M_sign_83 : decode prog_14_method_13_code 83 = .ok (.istore 4, 2) := by decide +kernel
theorem d_M_sign_85 : decode prog_14_method_13_code 85 = .ok (.iload_n 2, 1) := by decide +kernel
theorem d_M_sign_86 : decode prog_14_method_13_code 86 = .ok (.bipush 60, 2) := by decide +kernel
theorem d_M_sign_88 : decode prog_14_method_13_code 88 = .ok (.if_icmp .ne 7, 3) := by decide +kernel
theorem d_M_sign_91 : decode prog_14_method_13_code 91 = .ok (.bipush 13, 2) := by decide +kernel
theorem d_M_sign_93 : decode prog_14_method_13_code 93 = .ok (.istore 4, 2) := by decide +kernel
theorem d_M_sign_95 : decode prog_14_method_13_code 95 = .ok (.aload_n 0, 1) := by decide +kernel
theorem d_M_sign_96 : decode prog_14_method_13_code 96 = .ok (.iload 4, 2) := by decide +kernel
theorem d_M_sign_98 : decode prog_14_method_13_code 98 = .ok (.iload_n 1, 1) := by decide +kernel
theorem d_M_sign_99 : decode prog_14_method_13_code 99 = .ok (.iconst 0, 1) := by decide +kernel
theorem d_M_sign_100 : decode prog_14_method_13_code 100 = .ok (.lconst 0, 1) := by decide +kernel
theorem d_M_sign_101 : decode prog_14_method_13_code 101 = .ok (.invokevirtual 197, 3) := by decide +kernel
theorem d_M_sign_104 : decode prog_14_method_13_code 104 = .ok (.iconst 1, 1) := by decide +kernel
theorem d_M_sign_105 : decode prog_14_method_13_code 105 = .ok (.ireturn, 1) := by decide +kernel
noncomputable def F_M_sign : Sm := sSeq (sDecl (asV Value.int (iX (o2 (fun x y => decide (x = y)) (vI 2) (kI (ii 59))) (kI (ii 4)) (iX (o2 (fun x y => decide (x = y)) (vI 2) (kI (ii 61))) (kI (ii 5)) (iX (o2 (fun x y => decide (x = y)) (vI 2) (kI (ii 40))) (kI (ii 6)) (iX (o2 (fun x y => decide (x = y)) (vI 2) (kI (ii 41))) (kI (ii 7)) (kI (ii 3)))))))) (sSeq (sIf (o2 (fun x y => decide (x = y)) (vI 2) (kI (ii 43))) (sSet 4 (asV Value.int (kI (ii 8)))) (sSkip)) (sSeq (sIf (o2 (fun x y => decide (x = y)) (vI 2) (kI (ii 45))) (sSet 4 (asV Value.int (kI (ii 9)))) (sSkip)) (sSeq (sIf (o2 (fun x y => decide (x = y)) (vI 2) (kI (ii 42))) (sSet 4 (asV Value.int (kI (ii 10)))) (sSkip)) (sSeq (sIf (o2 (fun x y => decide (x = y)) (vI 2) (kI (ii 47))) (sSet 4 (asV Value.int (kI (ii 15)))) (sSkip)) (sSeq (sIf (o2 (fun x y => decide (x = y)) (vI 2) (kI (ii 60))) (sSet 4 (asV Value.int (kI (ii 13)))) (sSkip)) (sSeq (sCall (mV 12 D_M_token) [asV Value.ref (vR 0), asV Value.int (vI 4), asV Value.int (vI 1), asV Value.int (kI (ii 0)), asV Value.long (kL 0)]) (sRet (asV Value.int (kI (ii 1))))))))))
theorem mf_M_sign : Mf y_M_sign prog_14_method_13_code 5 (some .int) 3 := ⟨tw_1617, tw_134, by decide +kernel⟩
noncomputable def D_M_sign : Dn := runS [1, 1, 1, 1] F_M_sign
theorem ok_M_sign : MOK y_M_sign prog_14_method_13_code 5 (some .int) 1 0 0 D_M_sign := MOK.of (by decide) (by decide) (show SO Y_M_sign [(0, 1), (1, 1), (2, 1), (3, 1)] [(0, 1), (1, 1), (2, 1), (3, 1), (4, 1)] 0 106 (([], 0), ([], 0)) F_M_sign from
  (s_seq (sl1 := [(0, 1), (1, 1), (2, 1), (3, 1), (4, 1)]) (p1 := 45) (s_decl (p1 := 43) (e_ite (pt := 6) (p1 := 7) (pf := 10) (c_icmp_neF (p1 := 1) (p2 := 3) (tg := 10) (e_iload_n (k0 := 2) d_M_sign_0 rfl rfl) (e_bipush d_M_sign_1 (by decide)) d_M_sign_3 rfl) (e_iconst d_M_sign_6 (by decide)) d_M_sign_7 rfl (e_ite (pt := 16) (p1 := 17) (pf := 20) (c_icmp_neF (p1 := 11) (p2 := 13) (tg := 20) (e_iload_n (k0 := 2) d_M_sign_10 rfl rfl) (e_bipush d_M_sign_11 (by decide)) d_M_sign_13 rfl) (e_iconst d_M_sign_16 (by decide)) d_M_sign_17 rfl (e_ite (pt := 26) (p1 := 28) (pf := 31) (c_icmp_neF (p1 := 21) (p2 := 23) (tg := 31) (e_iload_n (k0 := 2) d_M_sign_20 rfl rfl) (e_bipush d_M_sign_21 (by decide)) d_M_sign_23 rfl) (e_bipush d_M_sign_26 (by decide)) d_M_sign_28 rfl (e_ite (pt := 37) (p1 := 39) (pf := 42) (c_icmp_neF (p1 := 32) (p2 := 34) (tg := 42) (e_iload_n (k0 := 2) d_M_sign_31 rfl rfl) (e_bipush d_M_sign_32 (by decide)) d_M_sign_34 rfl) (e_bipush d_M_sign_37 (by decide)) d_M_sign_39 rfl (e_iconst d_M_sign_42 (by decide)))))) (t_istore d_M_sign_43 (by decide)) rfl) (s_seq (sl1 := [(0, 1), (1, 1), (2, 1), (3, 1), (4, 1)]) (p1 := 55) (s_if (pt := 51) (pf := 55) (c_icmp_neF (p1 := 46) (p2 := 48) (tg := 55) (e_iload_n (k0 := 2) d_M_sign_45 rfl rfl) (e_bipush d_M_sign_46 (by decide)) d_M_sign_48 rfl) (s_set (k0 := 4) (p1 := 53) (e_bipush d_M_sign_51 (by decide)) (t_istore d_M_sign_53 (by decide)) rfl rfl) s_skip) (s_seq (sl1 := [(0, 1), (1, 1), (2, 1), (3, 1), (4, 1)]) (p1 := 65) (s_if (pt := 61) (pf := 65) (c_icmp_neF (p1 := 56) (p2 := 58) (tg := 65) (e_iload_n (k0 := 2) d_M_sign_55 rfl rfl) (e_bipush d_M_sign_56 (by decide)) d_M_sign_58 rfl) (s_set (k0 := 4) (p1 := 63) (e_bipush d_M_sign_61 (by decide)) (t_istore d_M_sign_63 (by decide)) rfl rfl) s_skip) (s_seq (sl1 := [(0, 1), (1, 1), (2, 1), (3, 1), (4, 1)]) (p1 := 75) (s_if (pt := 71) (pf := 75) (c_icmp_neF (p1 := 66) (p2 := 68) (tg := 75) (e_iload_n (k0 := 2) d_M_sign_65 rfl rfl) (e_bipush d_M_sign_66 (by decide)) d_M_sign_68 rfl) (s_set (k0 := 4) (p1 := 73) (e_bipush d_M_sign_71 (by decide)) (t_istore d_M_sign_73 (by decide)) rfl rfl) s_skip) (s_seq (sl1 := [(0, 1), (1, 1), (2, 1), (3, 1), (4, 1)]) (p1 := 85) (s_if (pt := 81) (pf := 85) (c_icmp_neF (p1 := 76) (p2 := 78) (tg := 85) (e_iload_n (k0 := 2) d_M_sign_75 rfl rfl) (e_bipush d_M_sign_76 (by decide)) d_M_sign_78 rfl) (s_set (k0 := 4) (p1 := 83) (e_bipush d_M_sign_81 (by decide)) (t_istore d_M_sign_83 (by decide)) rfl rfl) s_skip) (s_seq (sl1 := [(0, 1), (1, 1), (2, 1), (3, 1), (4, 1)]) (p1 := 95) (s_if (pt := 91) (pf := 95) (c_icmp_neF (p1 := 86) (p2 := 88) (tg := 95) (e_iload_n (k0 := 2) d_M_sign_85 rfl rfl) (e_bipush d_M_sign_86 (by decide)) d_M_sign_88 rfl) (s_set (k0 := 4) (p1 := 93) (e_bipush d_M_sign_91 (by decide)) (t_istore d_M_sign_93 (by decide)) rfl rfl) s_skip) (s_seq (sl1 := [(0, 1), (1, 1), (2, 1), (3, 1), (4, 1)]) (p1 := 104) (s_call (p1 := 101) (a_cons (ι := Value.ref) (k0 := 1) (p1 := 96) (fun _ => rfl) (e_aload_n (k0 := 0) d_M_sign_95 rfl rfl) (a_cons (ι := Value.int) (k0 := 1) (p1 := 98) (fun _ => rfl) (e_iload (k0 := 4) d_M_sign_96 rfl) (a_cons (ι := Value.int) (k0 := 1) (p1 := 99) (fun _ => rfl) (e_iload_n (k0 := 1) d_M_sign_98 rfl rfl) (a_cons (ι := Value.int) (k0 := 1) (p1 := 100) (fun _ => rfl) (e_iconst d_M_sign_99 (by decide)) (a_cons (ι := Value.long) (k0 := 2) (p1 := 101) (fun _ => rfl) (e_lconst d_M_sign_100 rfl) a_nil))))) (k_virt ok_M_token mf_M_token ⟨tw_1606, tw_52⟩ rfl tw_1604 d_M_sign_101 (by decide) (by decide) (by decide))) (s_ret (p1 := 105) (e_iconst d_M_sign_104 (by decide)) rfl d_M_sign_105)))))))))
/-! BlinkerCrossModel.cut()V -/
abbrev y_M_cut : MethodName := ⟨"BlinkerCrossModel", "cut", "()V"⟩
abbrev Y_M_cut : Yt := (prog_14_method_12_code, 8, "BlinkerCrossModel", 2, none, "cut")
theorem d_M_cut_0 : decode prog_14_method_12_code 0 = .ok (.aload_n 0, 1) := by decide +kernel
theorem d_M_cut_1 : decode prog_14_method_12_code 1 = .ok (.iconst 0, 1) := by decide +kernel
theorem d_M_cut_2 : decode prog_14_method_12_code 2 = .ok (.putfield 190, 3) := by decide +kernel
theorem d_M_cut_5 : decode prog_14_method_12_code 5 = .ok (.iconst 0, 1) := by decide +kernel
theorem d_M_cut_6 : decode prog_14_method_12_code 6 = .ok (.istore_n 1, 1) := by decide +kernel
theorem d_M_cut_7 : decode prog_14_method_12_code 7 = .ok (.aload_n 0, 1) := by decide +kernel
theorem d_M_cut_8 : decode prog_14_method_12_code 8 = .ok (.getfield 190, 3) := by decide +kernel
theorem d_M_cut_11 : decode prog_14_method_12_code 11 = .ok (.sipush 400, 3) := by decide +kernel
theorem d_M_cut_14 : decode prog_14_method_12_code 14 = .ok (.if_icmp .gt 280, 3) := by decide +kernel
theorem d_M_cut_17 : decode prog_14_method_12_code 17 = .ok (.aload_n 0, 1) := by decide +kernel
theorem d_M_cut_18 : decode prog_14_method_12_code 18 = .ok (.iload_n 1, 1) := by decide +kernel
theorem d_M_cut_19 : decode prog_14_method_12_code 19 = .ok (.invokevirtual 193, 3) := by decide +kernel
theorem d_M_cut_22 : decode prog_14_method_12_code 22 = .ok (.istore_n 2, 1) := by decide +kernel
theorem d_M_cut_23 : decode prog_14_method_12_code 23 = .ok (.iload_n 1, 1) := by decide +kernel
theorem d_M_cut_24 : decode prog_14_method_12_code 24 = .ok (.aload_n 0, 1) := by decide +kernel
theorem d_M_cut_25 : decode prog_14_method_12_code 25 = .ok (.getfield 181, 3) := by decide +kernel
theorem d_M_cut_28 : decode prog_14_method_12_code 28 = .ok (.if_icmp .lt 15, 3) := by decide +kernel
theorem d_M_cut_31 : decode prog_14_method_12_code 31 = .ok (.aload_n 0, 1) := by decide +kernel
theorem d_M_cut_32 : decode prog_14_method_12_code 32 = .ok (.iconst 0, 1) := by decide +kernel
theorem d_M_cut_33 : decode prog_14_method_12_code 33 = .ok (.aload_n 0, 1) := by decide +kernel
theorem d_M_cut_34 : decode prog_14_method_12_code 34 = .ok (.getfield 181, 3) := by decide +kernel
theorem d_M_cut_37 : decode prog_14_method_12_code 37 = .ok (.iconst 0, 1) := by decide +kernel
theorem d_M_cut_38 : decode prog_14_method_12_code 38 = .ok (.lconst 0, 1) := by decide +kernel
theorem d_M_cut_39 : decode prog_14_method_12_code 39 = .ok (.invokevirtual 197, 3) := by decide +kernel
theorem d_M_cut_42 : decode prog_14_method_12_code 42 = .ok (.return_, 1) := by decide +kernel
theorem d_M_cut_43 : decode prog_14_method_12_code 43 = .ok (.iload_n 2, 1) := by decide +kernel
theorem d_M_cut_44 : decode prog_14_method_12_code 44 = .ok (.bipush 9, 2) := by decide +kernel
theorem d_M_cut_46 : decode prog_14_method_12_code 46 = .ok (.if_icmp .eq 21, 3) := by decide +kernel
theorem d_M_cut_49 : decode prog_14_method_12_code 49 = .ok (.iload_n 2, 1) := by decide +kernel
theorem d_M_cut_50 : decode prog_14_method_12_code 50 = .ok (.bipush 10, 2) := by decide +kernel
theorem d_M_cut_52 : decode prog_14_method_12_code 52 = .ok (.if_icmp .eq 15, 3) := by decide +kernel
theorem d_M_cut_55 : decode prog_14_method_12_code 55 = .ok (.iload_n 2, 1) := by decide +kernel
theorem d_M_cut_56 : decode prog_14_method_12_code 56 = .ok (.bipush 13, 2) := by decide +kernel
theorem d_M_cut_58 : decode prog_14_method_12_code 58 = .ok (.if_icmp .eq 9, 3) := by decide +kernel
theorem d_M_cut_61 : decode prog_14_method_12_code 61 = .ok (.iload_n 2, 1) := by decide +kernel
theorem d_M_cut_62 : decode prog_14_method_12_code 62 = .ok (.bipush 32, 2) := by decide +kernel
theorem d_M_cut_64 : decode prog_14_method_12_code 64 = .ok (.if_icmp .ne 9, 3) := by decide +kernel
theorem d_M_cut_67 : decode prog_14_method_12_code 67 = .ok (.iinc 1 1, 3) := by decide +kernel
theorem d_M_cut_70 : decode prog_14_method_12_code 70 = .ok (.goto 221, 3) := by decide +kernel
theorem d_M_cut_73 : decode prog_14_method_12_code 73 = .ok (.iload_n 2, 1) := by decide +kernel
theorem d_M_cut_74 : decode prog_14_method_12_code 74 = .ok (.invokestatic 201, 3) := by decide +kernel
theorem d_M_cut_77 : decode prog_14_method_12_code 77 = .ok (.ifCond .eq 119, 3) := by decide +kernel
theorem d_M_cut_80 : decode prog_14_method_12_code 80 = .ok (.iconst 0, 1) := by decide +kernel
theorem d_M_cut_81 : decode prog_14_method_12_code 81 = .ok (.istore_n 3, 1) := by decide +kernel
theorem d_M_cut_82 : decode prog_14_method_12_code 82 = .ok (.lconst 0, 1) := by decide +kernel
theorem d_M_cut_83 : decode prog_14_method_12_code 83 = .ok (.lstore 4, 2) := by decide +kernel
theorem d_M_cut_85 : decode prog_14_method_12_code 85 = .ok (.aload_n 0, 1) := by decide +kernel
theorem d_M_cut_86 : decode prog_14_method_12_code 86 = .ok (.iload_n 1, 1) := by decide +kernel
theorem d_M_cut_87 : decode prog_14_method_12_code 87 = .ok (.iload_n 3, 1) := by decide +kernel
theorem d_M_cut_88 : decode prog_14_method_12_code 88 = .ok (.iadd, 1) := by decide +kernel
theorem d_M_cut_89 : decode prog_14_method_12_code 89 = .ok (.invokevirtual 193, 3) := by decide +kernel
theorem d_M_cut_92 : decode prog_14_method_12_code 92 = .ok (.invokestatic 201, 3) := by decide +kernel
theorem d_M_cut_95 : decode prog_14_method_12_code 95 = .ok (.ifCond .eq 29, 3) := by decide +kernel
theorem d_M_cut_98 : decode prog_14_method_12_code 98 = .ok (.iload_n 3, 1) := by decide +kernel
theorem d_M_cut_99 : decode prog_14_method_12_code 99 = .ok (.bipush 8, 2) := by decide +kernel
theorem d_M_cut_101 : decode prog_14_method_12_code 101 = .ok (.if_icmp .ge 17, 3) := by decide +kernel
theorem d_M_cut_104 : decode prog_14_method_12_code 104 = .ok (.lload 4, 2) := by decide +kernel
theorem d_M_cut_106 : decode prog_14_method_12_code 106 = .ok (.aload_n 0, 1) := by decide +kernel
theorem d_M_cut_107 : decode prog_14_method_12_code 107 = .ok (.iload_n 1, 1) := by decide +kernel
theorem d_M_cut_108 : decode prog_14_method_12_code 108 = .ok (.iload_n 3, 1) := by decide +kernel
theorem d_M_cut_109 : decode prog_14_method_12_code 109 = .ok (.iadd, 1) := by decide +kernel
theorem d_M_cut_110 : decode prog_14_method_12_code 110 = .ok (.invokevirtual 193, 3) := by decide +kernel
theorem d_M_cut_113 : decode prog_14_method_12_code 113 = .ok (.invokestatic 186, 3) := by decide +kernel
theorem d_M_cut_116 : decode prog_14_method_12_code 116 = .ok (.lstore 4, 2) := by decide +kernel
theorem d_M_cut_118 : decode prog_14_method_12_code 118 = .ok (.iinc 3 1, 3) := by decide +kernel
theorem d_M_cut_121 : decode prog_14_method_12_code 121 = .ok (.goto (-36), 3) := by decide +kernel
theorem d_M_cut_124 : decode prog_14_method_12_code 124 = .ok (.iload_n 3, 1) := by decide +kernel
theorem d_M_cut_125 : decode prog_14_method_12_code 125 = .ok (.bipush 8, 2) := by decide +kernel
theorem d_M_cut_127 : decode prog_14_method_12_code 127 = .ok (.if_icmp .le 7, 3) := by decide +kernel
theorem d_M_cut_130 : decode prog_14_method_12_code 130 = .ok (.iconst 3, 1) := by decide +kernel
theorem d_M_cut_131 : decode prog_14_method_12_code 131 = .ok (.goto 4, 3) := by decide +kernel
theorem d_M_cut_134 : decode prog_14_method_12_code 134 = .ok (.iconst 1, 1) := by decide +kernel
theorem d_M_cut_135 : decode prog_14_method_12_code 135 = .ok (.istore 6, 2) := by decide +kernel
theorem d_M_cut_137 : decode prog_14_method_12_code 137 = .ok (.iload_n 3, 1) := by decide +kernel
theorem d_M_cut_138 : decode prog_14_method_12_code 138 = .ok (.bipush 8, 2) := by decide +kernel
theorem d_M_cut_140 : decode prog_14_method_12_code 140 = .ok (.if_icmp .gt 39, 3) := by decide +kernel
theorem d_M_cut_143 : decode prog_14_method_12_code 143 = .ok (.iconst 0, 1) := by decide +kernel
theorem d_M_cut_144 : decode prog_14_method_12_code 144 = .ok (.istore 7, 2) := by decide +kernel
theorem d_M_cut_146 : decode prog_14_method_12_code 146 = .ok (.iload 7, 2) := by decide +kernel
theorem d_M_cut_148 : decode prog_14_method_12_code 148 = .ok (.bipush 20, 2) := by decide +kernel
theorem d_M_cut_150 : decode prog_14_method_12_code 150 = .ok (.if_icmp .ge 29, 3) := by decide +kernel
theorem d_M_cut_153 : decode prog_14_method_12_code 153 = .ok (.aload_n 0, 1) := by decide +kernel
theorem d_M_cut_154 : decode prog_14_method_12_code 154 = .ok (.getfield 34, 3) := by decide +kernel
theorem d_M_cut_157 : decode prog_14_method_12_code 157 = .ok (.iload 7, 2) := by decide +kernel
theorem d_M_cut_159 : decode prog_14_method_12_code 159 = .ok (.laload, 1) := by decide +kernel
theorem d_M_cut_160 : decode prog_14_method_12_code 160 = .ok (.lload 4, 2) := by decide +kernel
theorem d_M_cut_162 : decode prog_14_method_12_code 162 = .ok (.lcmp, 1) := by decide +kernel
theorem d_M_cut_163 : decode prog_14_method_12_code 163 = .ok (.ifCond .ne 10, 3) := by decide +kernel
theorem d_M_cut_166 : decode prog_14_method_12_code 166 = .ok (.bipush 20, 2) := by decide +kernel
theorem d_M_cut_168 : decode prog_14_method_12_code 168 = .ok (.iload 7, 2) := by decide +kernel
theorem d_M_cut_170 : decode prog_14_method_12_code 170 = .ok (.iadd, 1) := by decide +kernel
theorem d_M_cut_171 : decode prog_14_method_12_code 171 = .ok (.istore 6, 2) := by decide +kernel
theorem d_M_cut_173 : decode prog_14_method_12_code 173 = .ok (.iinc 7 1, 3) := by decide +kernel
theorem d_M_cut_176 : decode prog_14_method_12_code 176 = .ok (.goto (-30), 3) := by decide +kernel
theorem d_M_cut_179 : decode prog_14_method_12_code 179 = .ok (.aload_n 0, 1) := by decide +kernel
theorem d_M_cut_180 : decode prog_14_method_12_code 180 = .ok (.iload 6, 2) := by decide +kernel
theorem d_M_cut_182 : decode prog_14_method_12_code 182 = .ok (.iload_n 1, 1) := by decide +kernel
theorem d_M_cut_183 : decode prog_14_method_12_code 183 = .ok (.iconst 0, 1) := by decide +kernel
theorem d_M_cut_184 : decode prog_14_method_12_code 184 = .ok (.lload 4, 2) := by decide +kernel
theorem d_M_cut_186 : decode prog_14_method_12_code 186 = .ok (.invokevirtual 197, 3) := by decide +kernel
theorem d_M_cut_189 : decode prog_14_method_12_code 189 = .ok (.iload_n 1, 1) := by decide +kernel
theorem d_M_cut_190 : decode prog_14_method_12_code 190 = .ok (.iload_n 3, 1) := by decide +kernel
theorem d_M_cut_191 : decode prog_14_method_12_code 191 = .ok (.iadd, 1) := by decide +kernel
theorem d_M_cut_192 : decode prog_14_method_12_code 192 = .ok (.istore_n 1, 1) := by decide +kernel
theorem d_M_cut_193 : decode prog_14_method_12_code 193 = .ok (.goto 98, 3) := by decide +kernel
theorem d_M_cut_196 : decode prog_14_method_12_code 196 = .ok (.iload_n 2, 1) := by decide +kernel
theorem d_M_cut_197 : decode prog_14_method_12_code 197 = .ok (.invokestatic 205, 3) := by decide +kernel
theorem d_M_cut_200 : decode prog_14_method_12_code 200 = .ok (.ifCond .eq 75, 3) := by decide +kernel
theorem d_M_cut_203 : decode prog_14_method_12_code 203 = .ok (.iconst 0, 1) := by decide +kernel
theorem d_M_cut_204 : decode prog_14_method_12_code 204 = .ok (.istore_n 3, 1) := by decide +kernel
theorem d_M_cut_205 : decode prog_14_method_12_code 205 = .ok (.iconst 0, 1) := by decide +kernel
theorem d_M_cut_206 : decode prog_14_method_12_code 206 = .ok (.istore 4, 2) := by decide +kernel
theorem d_M_cut_208 : decode prog_14_method_12_code 208 = .ok (.aload_n 0, 1) := by decide +kernel
theorem d_M_cut_209 : decode prog_14_method_12_code 209 = .ok (.iload_n 1, 1) := by decide +kernel
theorem d_M_cut_210 : decode prog_14_method_12_code 210 = .ok (.iload_n 3, 1) := by decide +kernel
theorem d_M_cut_211 : decode prog_14_method_12_code 211 = .ok (.iadd, 1) := by decide +kernel
theorem d_M_cut_212 : decode prog_14_method_12_code 212 = .ok (.invokevirtual 193, 3) := by decide +kernel
theorem d_M_cut_215 : decode prog_14_method_12_code 215 = .ok (.invokestatic 205, 3) := by decide +kernel
theorem d_M_cut_218 : decode prog_14_method_12_code 218 = .ok (.ifCond .eq 32, 3) := by decide +kernel
theorem d_M_cut_221 : decode prog_14_method_12_code 221 = .ok (.iload_n 3, 1) := by decide +kernel
theorem d_M_cut_222 : decode prog_14_method_12_code 222 = .ok (.iconst 4, 1) := by decide +kernel
theorem d_M_cut_223 : decode prog_14_method_12_code 223 = .ok (.if_icmp .ge 21, 3) := by decide +kernel
theorem d_M_cut_226 : decode prog_14_method_12_code 226 = .ok (.bipush 10, 2) := by decide +kernel
theorem d_M_cut_228 : decode prog_14_method_12_code 228 = .ok (.iload 4, 2) := by decide +kernel
theorem d_M_cut_230 : decode prog_14_method_12_code 230 = .ok (.imul, 1) := by decide +kernel
theorem d_M_cut_231 : decode prog_14_method_12_code 231 = .ok (.aload_n 0, 1) := by decide +kernel
theorem d_M_cut_232 : decode prog_14_method_12_code 232 = .ok (.iload_n 1, 1) := by decide +kernel
theorem d_M_cut_233 : decode prog_14_method_12_code 233 = .ok (.iload_n 3, 1) := by decide +kernel
theorem d_M_cut_234 : decode prog_14_method_12_code 234 = .ok (.iadd, 1) := by decide +kernel
theorem d_M_cut_235 : decode prog_14_method_12_code 235 = .ok (.invokevirtual 193, 3) := by decide +kernel
theorem d_M_cut_238 : decode prog_14_method_12_code 238 = .ok (.iadd, 1) := by decide +kernel
theorem d_M_cut_239 : decode prog_14_method_12_code 239 = .ok (.bipush 48, 2) := by decide +kernel
theorem d_M_cut_241 : decode prog_14_method_12_code 241 = .ok (.isub, 1) := by decide +kernel
theorem d_M_cut_242 : decode prog_14_method_12_code 242 = .ok (.istore 4, 2) := by decide +kernel
theorem d_M_cut_244 : decode prog_14_method_12_code 244 = .ok (.iinc 3 1, 3) := by decide +kernel
theorem d_M_cut_247 : decode prog_14_method_12_code 247 = .ok (.goto (-39), 3) := by decide +kernel
theorem d_M_cut_250 : decode prog_14_method_12_code 250 = .ok (.aload_n 0, 1) := by decide +kernel
theorem d_M_cut_251 : decode prog_14_method_12_code 251 = .ok (.iload_n 3, 1) := by decide +kernel
theorem d_M_cut_252 : decode prog_14_method_12_code 252 = .ok (.iconst 4, 1) := by decide +kernel
theorem d_M_cut_253 : decode prog_14_method_12_code 253 = .ok (.if_icmp .le 7, 3) := by decide +kernel
theorem d_M_cut_256 : decode prog_14_method_12_code 256 = .ok (.iconst 3, 1) := by decide +kernel
theorem d_M_cut_257 : decode prog_14_method_12_code 257 = .ok (.goto 4, 3) := by decide +kernel
theorem d_M_cut_260 : decode prog_14_method_12_code 260 = .ok (.iconst 2, 1) := by decide +kernel
theorem d_M_cut_261 : decode prog_14_method_12_code 261 = .ok (.iload_n 1, 1) := by decide +kernel
theorem d_M_cut_262 : decode prog_14_method_12_code 262 = .ok (.iload 4, 2) := by decide +kernel
theorem d_M_cut_264 : decode prog_14_method_12_code 264 = .ok (.lconst 0, 1) := by decide +kernel
theorem d_M_cut_265 : decode prog_14_method_12_code 265 = .ok (.invokevirtual 197, 3) := by decide +kernel
theorem d_M_cut_268 : decode prog_14_method_12_code 268 = .ok (.iload_n 1, 1) := by decide +kernel
theorem d_M_cut_269 : decode prog_14_method_12_code 269 = .ok (.iload_n 3, 1) := by decide +kernel
theorem d_M_cut_270 : decode prog_14_method_12_code 270 = .ok (.iadd, 1) := by decide +kernel
theorem d_M_cut_271 : decode prog_14_method_12_code 271 = .ok (.istore_n 1, 1) := by decide +kernel
theorem d_M_cut_272 : decode prog_14_method_12_code 272 = .ok (.goto 19, 3) := by decide +kernel
theorem d_M_cut_275 : decode prog_14_method_12_code 275 = .ok (.iload_n 1, 1) := by decide +kernel
theorem d_M_cut_276 : decode prog_14_method_12_code 276 = .ok (.aload_n 0, 1) := by decide +kernel
theorem d_M_cut_277 : decode prog_14_method_12_code 277 = .ok (.iload_n 1, 1) := by decide +kernel
theorem d_M_cut_278 : decode prog_14_method_12_code 278 = .ok (.iload_n 2, 1) := by decide +kernel
theorem d_M_cut_279 : decode prog_14_method_12_code 279 = .ok (.aload_n 0, 1) := by decide +kernel
theorem d_M_cut_280 : decode prog_14_method_12_code 280 = .ok (.iload_n 1, 1) := by decide +kernel
theorem d_M_cut_281 : decode prog_14_method_12_code 281 = .ok (.iconst 1, 1) := by decide +kernel
theorem d_M_cut_282 : decode prog_14_method_12_code 282 = .ok (.iadd, 1) := by decide +kernel
theorem d_M_cut_283 : decode prog_14_method_12_code 283 = .ok (.invokevirtual 193, 3) := by decide +kernel
theorem d_M_cut_286 : decode prog_14_method_12_code 286 = .ok (.invokevirtual 208, 3) := by decide +kernel
theorem d_M_cut_289 : decode prog_14_method_12_code 289 = .ok (.iadd, 1) := by decide +kernel
theorem d_M_cut_290 : decode prog_14_method_12_code 290 = .ok (.istore_n 1, 1) := by decide +kernel
theorem d_M_cut_291 : decode prog_14_method_12_code 291 = .ok (.goto (-284), 3) := by decide +kernel
theorem d_M_cut_294 : decode prog_14_method_12_code 294 = .ok (.return_, 1) := by decide +kernel
noncomputable def Lc_M_cut_1 : Xp Bool := o1 (fun x => decide (x ≠ 0)) (cI (D_M_isLetter) [asV Value.int (cI (mV 12 D_M_byteAt) [asV Value.ref (vR 0), asV Value.int (o2 (fun x y => x + y) (vI 1) (vI 3))])])
noncomputable def Lb_M_cut_1 : Sm := sSeq (sIf (o2 (fun x y => decide (x < y)) (vI 3) (kI (ii 8))) (sSet 4 (asV Value.long (cL (D_M_appends) [asV Value.long (vL 4), asV Value.int (cI (mV 12 D_M_byteAt) [asV Value.ref (vR 0), asV Value.int (o2 (fun x y => x + y) (vI 1) (vI 3))])]))) (sSkip)) (sInc 3 (ii 1))
noncomputable def Lu_M_cut_1 : Sm := sSkip
noncomputable def Lc_M_cut_2 : Xp Bool := o2 (fun x y => decide (x < y)) (vI 6) (kI (ii 20))
noncomputable def Lb_M_cut_2 : Sm := sIf (o2 (fun x y => decide (x = y)) (aL (gR 12 9 (vR 0)) (vI 6)) (vL 4)) (sSet 5 (asV Value.int (o2 (fun x y => x + y) (kI (ii 20)) (vI 6)))) (sSkip)
noncomputable def Lu_M_cut_2 : Sm := sInc 6 (ii 1)
noncomputable def Lc_M_cut_3 : Xp Bool := o1 (fun x => decide (x ≠ 0)) (cI (D_M_isDigit) [asV Value.int (cI (mV 12 D_M_byteAt) [asV Value.ref (vR 0), asV Value.int (o2 (fun x y => x + y) (vI 1) (vI 3))])])
noncomputable def Lb_M_cut_3 : Sm := sSeq (sIf (o2 (fun x y => decide (x < y)) (vI 3) (kI (ii 4))) (sSet 4 (asV Value.int (o2 (fun x y => x - y) (o2 (fun x y => x + y) (o2 (fun x y => x * y) (kI (ii 10)) (vI 4)) (cI (mV 12 D_M_byteAt) [asV Value.ref (vR 0), asV Value.int (o2 (fun x y => x + y) (vI 1) (vI 3))])) (kI (ii 48))))) (sSkip)) (sInc 3 (ii 1))
noncomputable def Lu_M_cut_3 : Sm := sSkip
noncomputable def Lc_M_cut_4 : Xp Bool := o2 (fun x y => decide (x ≤ y)) (gI 12 10 (vR 0)) (kI (ii 400))
noncomputable def Lb_M_cut_4 : Sm := sBlk 2 (sSeq (sDecl (asV Value.int (cI (mV 12 D_M_byteAt) [asV Value.ref (vR 0), asV Value.int (vI 1)]))) (sSeq (sIf (o2 (fun x y => decide (x ≥ y)) (vI 1) (gI 12 4 (vR 0))) (sSeq (sCall (mV 12 D_M_token) [asV Value.ref (vR 0), asV Value.int (kI (ii 0)), asV Value.int (gI 12 4 (vR 0)), asV Value.int (kI (ii 0)), asV Value.long (kL 0)]) (sRetV)) (sSkip)) (sIf (cOr (cOr (cOr (o2 (fun x y => decide (x = y)) (vI 2) (kI (ii 9))) (o2 (fun x y => decide (x = y)) (vI 2) (kI (ii 10)))) (o2 (fun x y => decide (x = y)) (vI 2) (kI (ii 13)))) (o2 (fun x y => decide (x = y)) (vI 2) (kI (ii 32)))) (sInc 1 (ii 1)) (sIf (o1 (fun x => decide (x ≠ 0)) (cI (D_M_isLetter) [asV Value.int (vI 2)])) (sBlk 3 (sSeq (sDecl (asV Value.int (kI (ii 0)))) (sSeq (sDecl (asV Value.long (kL 0))) (sSeq (sWh (Lc_M_cut_1) (Lb_M_cut_1) Lu_M_cut_1) (sSeq (sDecl (asV Value.int (iX (o2 (fun x y => decide (x > y)) (vI 3) (kI (ii 8))) (kI (ii 3)) (kI (ii 1))))) (sSeq (sIf (o2 (fun x y => decide (x ≤ y)) (vI 3) (kI (ii 8))) (sBlk 6 (sSeq (sDecl (asV Value.int (kI (ii 0)))) (sWh (Lc_M_cut_2) (Lb_M_cut_2) Lu_M_cut_2))) (sSkip)) (sSeq (sCall (mV 12 D_M_token) [asV Value.ref (vR 0), asV Value.int (vI 5), asV Value.int (vI 1), asV Value.int (kI (ii 0)), asV Value.long (vL 4)]) (sSet 1 (asV Value.int (o2 (fun x y => x + y) (vI 1) (vI 3))))))))))) (sIf (o1 (fun x => decide (x ≠ 0)) (cI (D_M_isDigit) [asV Value.int (vI 2)])) (sBlk 3 (sSeq (sDecl (asV Value.int (kI (ii 0)))) (sSeq (sDecl (asV Value.int (kI (ii 0)))) (sSeq (sWh (Lc_M_cut_3) (Lb_M_cut_3) Lu_M_cut_3) (sSeq (sCall (mV 12 D_M_token) [asV Value.ref (vR 0), asV Value.int (iX (o2 (fun x y => decide (x > y)) (vI 3) (kI (ii 4))) (kI (ii 3)) (kI (ii 2))), asV Value.int (vI 1), asV Value.int (vI 4), asV Value.long (kL 0)]) (sSet 1 (asV Value.int (o2 (fun x y => x + y) (vI 1) (vI 3))))))))) (sSet 1 (asV Value.int (o2 (fun x y => x + y) (vI 1) (cI (mV 12 D_M_sign) [asV Value.ref (vR 0), asV Value.int (vI 1), asV Value.int (vI 2), asV Value.int (cI (mV 12 D_M_byteAt) [asV Value.ref (vR 0), asV Value.int (o2 (fun x y => x + y) (vI 1) (kI (ii 1)))])])))))))))
noncomputable def Lu_M_cut_4 : Sm := sSkip
noncomputable def F_M_cut : Sm := sSeq (sPut 12 10 (vR 0) (asV Value.int (kI (ii 0)))) (sSeq (sDecl (asV Value.int (kI (ii 0)))) (sSeq (sWh (Lc_M_cut_4) (Lb_M_cut_4) Lu_M_cut_4) (sRetV)))
theorem mf_M_cut : Mf y_M_cut prog_14_method_12_code 8 none 0 := ⟨tw_1599, tw_134, by decide +kernel⟩
noncomputable def D_M_cut : Dn := runS [1] F_M_cut
theorem ok_M_cut : MOK y_M_cut prog_14_method_12_code 8 none 2 0 0 D_M_cut := MOK.of (by decide) (by decide) (show SO Y_M_cut [(0, 1)] [(0, 1), (1, 1)] 0 295 (([], 0), ([], 0)) F_M_cut from
  (s_seq (sl1 := [(0, 1)]) (p1 := 5) (s_put (k0 := 10) (p1 := 1) (p2 := 2) cf_12 (e_aload_n (k0 := 0) d_M_cut_0 rfl rfl) (e_iconst d_M_cut_1 (by decide)) (by decide) fk_i tw_1370 (Or.inl rfl) d_M_cut_2) (s_seq (sl1 := [(0, 1), (1, 1)]) (p1 := 7) (s_decl (p1 := 6) (e_iconst d_M_cut_5 (by decide)) (t_istore_n d_M_cut_6 rfl (by decide)) rfl) (s_seq (sl1 := [(0, 1), (1, 1)]) (p1 := 294) (s_for (pt := 17) (pu := 7) (pf := 294) (pg := 0) (c_icmp_gtF (p1 := 11) (p2 := 14) (tg := 294) (e_gI (k0 := 10) (p1 := 8) cf_12 (e_aload_n (k0 := 0) d_M_cut_7 rfl rfl) (by decide) tw_1370 d_M_cut_8) (e_sipush d_M_cut_11 (by decide)) d_M_cut_14 rfl) (s_blk (sl1 := [(0, 1), (1, 1), (2, 1)]) (s_seq (sl1 := [(0, 1), (1, 1), (2, 1)]) (p1 := 23) (s_decl (p1 := 22) (e_cI (p1 := 19) (a_cons (ι := Value.ref) (k0 := 1) (p1 := 18) (fun _ => rfl) (e_aload_n (k0 := 0) d_M_cut_17 rfl rfl) (a_cons (ι := Value.int) (k0 := 1) (p1 := 19) (fun _ => rfl) (e_iload_n (k0 := 1) d_M_cut_18 rfl rfl) a_nil)) (k_virt ok_M_byteAt mf_M_byteAt ⟨tw_1602, tw_51⟩ rfl tw_1600 d_M_cut_19 (by decide) (by decide) (by decide))) (t_istore_n d_M_cut_22 rfl (by decide)) rfl) (s_seq (sl1 := [(0, 1), (1, 1), (2, 1)]) (p1 := 43) (s_if (pt := 31) (pf := 43) (c_icmp_ltF (p1 := 24) (p2 := 28) (tg := 43) (e_iload_n (k0 := 1) d_M_cut_23 rfl rfl) (e_gI (k0 := 4) (p1 := 25) cf_12 (e_aload_n (k0 := 0) d_M_cut_24 rfl rfl) (by decide) tw_1364 d_M_cut_25) d_M_cut_28 rfl) (s_seq (sl1 := [(0, 1), (1, 1), (2, 1)]) (p1 := 42) (s_call (p1 := 39) (a_cons (ι := Value.ref) (k0 := 1) (p1 := 32) (fun _ => rfl) (e_aload_n (k0 := 0) d_M_cut_31 rfl rfl) (a_cons (ι := Value.int) (k0 := 1) (p1 := 33) (fun _ => rfl) (e_iconst d_M_cut_32 (by decide)) (a_cons (ι := Value.int) (k0 := 1) (p1 := 37) (fun _ => rfl) (e_gI (k0 := 4) (p1 := 34) cf_12 (e_aload_n (k0 := 0) d_M_cut_33 rfl rfl) (by decide) tw_1364 d_M_cut_34) (a_cons (ι := Value.int) (k0 := 1) (p1 := 38) (fun _ => rfl) (e_iconst d_M_cut_37 (by decide)) (a_cons (ι := Value.long) (k0 := 2) (p1 := 39) (fun _ => rfl) (e_lconst d_M_cut_38 rfl) a_nil))))) (k_virt ok_M_token mf_M_token ⟨tw_1606, tw_52⟩ rfl tw_1604 d_M_cut_39 (by decide) (by decide) (by decide))) (s_retV rfl d_M_cut_42)) s_skip) (s_goto (p1 := 291) (s_if (pt := 67) (pf := 73) (p1 := 291) (c_or (p1 := 61) (c_or (p1 := 55) (c_or (p1 := 49) (c_icmp_eqT (p1 := 44) (p2 := 46) (tg := 67) (e_iload_n (k0 := 2) d_M_cut_43 rfl rfl) (e_bipush d_M_cut_44 (by decide)) d_M_cut_46 rfl) (c_icmp_eqT (p1 := 50) (p2 := 52) (tg := 67) (e_iload_n (k0 := 2) d_M_cut_49 rfl rfl) (e_bipush d_M_cut_50 (by decide)) d_M_cut_52 rfl)) (c_icmp_eqT (p1 := 56) (p2 := 58) (tg := 67) (e_iload_n (k0 := 2) d_M_cut_55 rfl rfl) (e_bipush d_M_cut_56 (by decide)) d_M_cut_58 rfl)) (c_icmp_neF (p1 := 62) (p2 := 64) (tg := 73) (e_iload_n (k0 := 2) d_M_cut_61 rfl rfl) (e_bipush d_M_cut_62 (by decide)) d_M_cut_64 rfl)) (s_goto (p1 := 70) (s_inc (k0 := 1) d_M_cut_67 rfl rfl (Nat.le_of_ble_eq_true rfl) rfl) d_M_cut_70 rfl) (s_if (pt := 80) (pf := 196) (p1 := 291) (c_if_eqF (p1 := 77) (tg := 196) (e_cI (p1 := 74) (a_cons (ι := Value.int) (k0 := 1) (p1 := 74) (fun _ => rfl) (e_iload_n (k0 := 2) d_M_cut_73 rfl rfl) a_nil) (k_stat ok_M_isLetter mf_M_isLetter tw_1609 tw_1608 d_M_cut_74 (by decide) (by decide) (by decide))) d_M_cut_77 rfl) (s_blk (sl1 := [(0, 1), (1, 1), (2, 1), (3, 1), (4, 2), (6, 1)]) (s_seq (sl1 := [(0, 1), (1, 1), (2, 1), (3, 1)]) (p1 := 82) (s_decl (p1 := 81) (e_iconst d_M_cut_80 (by decide)) (t_istore_n d_M_cut_81 rfl (by decide)) rfl) (s_seq (sl1 := [(0, 1), (1, 1), (2, 1), (3, 1), (4, 2)]) (p1 := 85) (s_decl (p1 := 83) (e_lconst d_M_cut_82 rfl) (t_lstore d_M_cut_83 (by decide)) rfl) (s_seq (sl1 := [(0, 1), (1, 1), (2, 1), (3, 1), (4, 2)]) (p1 := 124) (s_for (pt := 98) (pu := 85) (pf := 124) (pg := 0) (c_if_eqF (p1 := 95) (tg := 124) (e_cI (p1 := 92) (a_cons (ι := Value.int) (k0 := 1) (p1 := 92) (fun _ => rfl) (e_cI (p1 := 89) (a_cons (ι := Value.ref) (k0 := 1) (p1 := 86) (fun _ => rfl) (e_aload_n (k0 := 0) d_M_cut_85 rfl rfl) (a_cons (ι := Value.int) (k0 := 1) (p1 := 89) (fun _ => rfl) (e_iadd (p1 := 87) (p2 := 88) (e_iload_n (k0 := 1) d_M_cut_86 rfl rfl) (e_iload_n (k0 := 3) d_M_cut_87 rfl rfl) d_M_cut_88) a_nil)) (k_virt ok_M_byteAt mf_M_byteAt ⟨tw_1602, tw_51⟩ rfl tw_1600 d_M_cut_89 (by decide) (by decide) (by decide))) a_nil) (k_stat ok_M_isLetter mf_M_isLetter tw_1609 tw_1608 d_M_cut_92 (by decide) (by decide) (by decide))) d_M_cut_95 rfl) (s_seq (sl1 := [(0, 1), (1, 1), (2, 1), (3, 1), (4, 2)]) (p1 := 118) (s_if (pt := 104) (pf := 118) (c_icmp_geF (p1 := 99) (p2 := 101) (tg := 118) (e_iload_n (k0 := 3) d_M_cut_98 rfl rfl) (e_bipush d_M_cut_99 (by decide)) d_M_cut_101 rfl) (s_set (k0 := 4) (p1 := 116) (e_cL (p1 := 113) (a_cons (ι := Value.long) (k0 := 2) (p1 := 106) (fun _ => rfl) (e_lload (k0 := 4) d_M_cut_104 rfl) (a_cons (ι := Value.int) (k0 := 1) (p1 := 113) (fun _ => rfl) (e_cI (p1 := 110) (a_cons (ι := Value.ref) (k0 := 1) (p1 := 107) (fun _ => rfl) (e_aload_n (k0 := 0) d_M_cut_106 rfl rfl) (a_cons (ι := Value.int) (k0 := 1) (p1 := 110) (fun _ => rfl) (e_iadd (p1 := 108) (p2 := 109) (e_iload_n (k0 := 1) d_M_cut_107 rfl rfl) (e_iload_n (k0 := 3) d_M_cut_108 rfl rfl) d_M_cut_109) a_nil)) (k_virt ok_M_byteAt mf_M_byteAt ⟨tw_1602, tw_51⟩ rfl tw_1600 d_M_cut_110 (by decide) (by decide) (by decide))) a_nil)) (k_stat ok_M_appends mf_M_appends tw_1350 tw_1349 d_M_cut_113 (by decide) (by decide) (by decide))) (t_lstore d_M_cut_116 (by decide)) rfl rfl) s_skip) (s_goto (p1 := 121) (s_inc (k0 := 3) d_M_cut_118 rfl rfl (Nat.le_of_ble_eq_true rfl) rfl) d_M_cut_121 rfl)) s_skip) (s_seq (sl1 := [(0, 1), (1, 1), (2, 1), (3, 1), (4, 2), (6, 1)]) (p1 := 137) (s_decl (p1 := 135) (e_ite (pt := 130) (p1 := 131) (pf := 134) (c_icmp_leF (p1 := 125) (p2 := 127) (tg := 134) (e_iload_n (k0 := 3) d_M_cut_124 rfl rfl) (e_bipush d_M_cut_125 (by decide)) d_M_cut_127 rfl) (e_iconst d_M_cut_130 (by decide)) d_M_cut_131 rfl (e_iconst d_M_cut_134 (by decide))) (t_istore d_M_cut_135 (by decide)) rfl) (s_seq (sl1 := [(0, 1), (1, 1), (2, 1), (3, 1), (4, 2), (6, 1)]) (p1 := 179) (s_if (pt := 143) (pf := 179) (c_icmp_gtF (p1 := 138) (p2 := 140) (tg := 179) (e_iload_n (k0 := 3) d_M_cut_137 rfl rfl) (e_bipush d_M_cut_138 (by decide)) d_M_cut_140 rfl) (s_blk (sl1 := [(0, 1), (1, 1), (2, 1), (3, 1), (4, 2), (6, 1), (7, 1)]) (s_seq (sl1 := [(0, 1), (1, 1), (2, 1), (3, 1), (4, 2), (6, 1), (7, 1)]) (p1 := 146) (s_decl (p1 := 144) (e_iconst d_M_cut_143 (by decide)) (t_istore d_M_cut_144 (by decide)) rfl) (s_for (pt := 153) (pu := 173) (pf := 179) (pg := 0) (c_icmp_geF (p1 := 148) (p2 := 150) (tg := 179) (e_iload (k0 := 6) d_M_cut_146 rfl) (e_bipush d_M_cut_148 (by decide)) d_M_cut_150 rfl) (s_if (pt := 166) (pf := 173) (c_lcmp_neF (p1 := 160) (p2 := 162) (tg := 173) (e_lald (p1 := 157) (p2 := 159) (e_gR (k0 := 9) (p1 := 154) cf_12 (e_aload_n (k0 := 0) d_M_cut_153 rfl rfl) (by decide) tw_1369 d_M_cut_154) (e_iload (k0 := 6) d_M_cut_157 rfl) d_M_cut_159) (e_lload (k0 := 4) d_M_cut_160 rfl) d_M_cut_162 d_M_cut_163 rfl) (s_set (k0 := 5) (p1 := 171) (e_iadd (p1 := 168) (p2 := 170) (e_bipush d_M_cut_166 (by decide)) (e_iload (k0 := 6) d_M_cut_168 rfl) d_M_cut_170) (t_istore d_M_cut_171 (by decide)) rfl rfl) s_skip) (s_goto (p1 := 176) (s_inc (k0 := 6) d_M_cut_173 rfl rfl (Nat.le_of_ble_eq_true rfl) rfl) d_M_cut_176 rfl))) rfl) s_skip) (s_seq (sl1 := [(0, 1), (1, 1), (2, 1), (3, 1), (4, 2), (6, 1)]) (p1 := 189) (s_call (p1 := 186) (a_cons (ι := Value.ref) (k0 := 1) (p1 := 180) (fun _ => rfl) (e_aload_n (k0 := 0) d_M_cut_179 rfl rfl) (a_cons (ι := Value.int) (k0 := 1) (p1 := 182) (fun _ => rfl) (e_iload (k0 := 5) d_M_cut_180 rfl) (a_cons (ι := Value.int) (k0 := 1) (p1 := 183) (fun _ => rfl) (e_iload_n (k0 := 1) d_M_cut_182 rfl rfl) (a_cons (ι := Value.int) (k0 := 1) (p1 := 184) (fun _ => rfl) (e_iconst d_M_cut_183 (by decide)) (a_cons (ι := Value.long) (k0 := 2) (p1 := 186) (fun _ => rfl) (e_lload (k0 := 4) d_M_cut_184 rfl) a_nil))))) (k_virt ok_M_token mf_M_token ⟨tw_1606, tw_52⟩ rfl tw_1604 d_M_cut_186 (by decide) (by decide) (by decide))) (s_goto (p1 := 193) (s_set (k0 := 1) (p1 := 192) (e_iadd (p1 := 190) (p2 := 191) (e_iload_n (k0 := 1) d_M_cut_189 rfl rfl) (e_iload_n (k0 := 3) d_M_cut_190 rfl rfl) d_M_cut_191) (t_istore_n d_M_cut_192 rfl (by decide)) rfl rfl) d_M_cut_193 rfl))))))) rfl) (s_if (pt := 203) (pf := 275) (p1 := 291) (c_if_eqF (p1 := 200) (tg := 275) (e_cI (p1 := 197) (a_cons (ι := Value.int) (k0 := 1) (p1 := 197) (fun _ => rfl) (e_iload_n (k0 := 2) d_M_cut_196 rfl rfl) a_nil) (k_stat ok_M_isDigit mf_M_isDigit tw_1612 tw_1611 d_M_cut_197 (by decide) (by decide) (by decide))) d_M_cut_200 rfl) (s_blk (sl1 := [(0, 1), (1, 1), (2, 1), (3, 1), (4, 1)]) (s_seq (sl1 := [(0, 1), (1, 1), (2, 1), (3, 1)]) (p1 := 205) (s_decl (p1 := 204) (e_iconst d_M_cut_203 (by decide)) (t_istore_n d_M_cut_204 rfl (by decide)) rfl) (s_seq (sl1 := [(0, 1), (1, 1), (2, 1), (3, 1), (4, 1)]) (p1 := 208) (s_decl (p1 := 206) (e_iconst d_M_cut_205 (by decide)) (t_istore d_M_cut_206 (by decide)) rfl) (s_seq (sl1 := [(0, 1), (1, 1), (2, 1), (3, 1), (4, 1)]) (p1 := 250) (s_for (pt := 221) (pu := 208) (pf := 250) (pg := 0) (c_if_eqF (p1 := 218) (tg := 250) (e_cI (p1 := 215) (a_cons (ι := Value.int) (k0 := 1) (p1 := 215) (fun _ => rfl) (e_cI (p1 := 212) (a_cons (ι := Value.ref) (k0 := 1) (p1 := 209) (fun _ => rfl) (e_aload_n (k0 := 0) d_M_cut_208 rfl rfl) (a_cons (ι := Value.int) (k0 := 1) (p1 := 212) (fun _ => rfl) (e_iadd (p1 := 210) (p2 := 211) (e_iload_n (k0 := 1) d_M_cut_209 rfl rfl) (e_iload_n (k0 := 3) d_M_cut_210 rfl rfl) d_M_cut_211) a_nil)) (k_virt ok_M_byteAt mf_M_byteAt ⟨tw_1602, tw_51⟩ rfl tw_1600 d_M_cut_212 (by decide) (by decide) (by decide))) a_nil) (k_stat ok_M_isDigit mf_M_isDigit tw_1612 tw_1611 d_M_cut_215 (by decide) (by decide) (by decide))) d_M_cut_218 rfl) (s_seq (sl1 := [(0, 1), (1, 1), (2, 1), (3, 1), (4, 1)]) (p1 := 244) (s_if (pt := 226) (pf := 244) (c_icmp_geF (p1 := 222) (p2 := 223) (tg := 244) (e_iload_n (k0 := 3) d_M_cut_221 rfl rfl) (e_iconst d_M_cut_222 (by decide)) d_M_cut_223 rfl) (s_set (k0 := 4) (p1 := 242) (e_isub (p1 := 239) (p2 := 241) (e_iadd (p1 := 231) (p2 := 238) (e_imul (p1 := 228) (p2 := 230) (e_bipush d_M_cut_226 (by decide)) (e_iload (k0 := 4) d_M_cut_228 rfl) d_M_cut_230) (e_cI (p1 := 235) (a_cons (ι := Value.ref) (k0 := 1) (p1 := 232) (fun _ => rfl) (e_aload_n (k0 := 0) d_M_cut_231 rfl rfl) (a_cons (ι := Value.int) (k0 := 1) (p1 := 235) (fun _ => rfl) (e_iadd (p1 := 233) (p2 := 234) (e_iload_n (k0 := 1) d_M_cut_232 rfl rfl) (e_iload_n (k0 := 3) d_M_cut_233 rfl rfl) d_M_cut_234) a_nil)) (k_virt ok_M_byteAt mf_M_byteAt ⟨tw_1602, tw_51⟩ rfl tw_1600 d_M_cut_235 (by decide) (by decide) (by decide))) d_M_cut_238) (e_bipush d_M_cut_239 (by decide)) d_M_cut_241) (t_istore d_M_cut_242 (by decide)) rfl rfl) s_skip) (s_goto (p1 := 247) (s_inc (k0 := 3) d_M_cut_244 rfl rfl (Nat.le_of_ble_eq_true rfl) rfl) d_M_cut_247 rfl)) s_skip) (s_seq (sl1 := [(0, 1), (1, 1), (2, 1), (3, 1), (4, 1)]) (p1 := 268) (s_call (p1 := 265) (a_cons (ι := Value.ref) (k0 := 1) (p1 := 251) (fun _ => rfl) (e_aload_n (k0 := 0) d_M_cut_250 rfl rfl) (a_cons (ι := Value.int) (k0 := 1) (p1 := 261) (fun _ => rfl) (e_ite (pt := 256) (p1 := 257) (pf := 260) (c_icmp_leF (p1 := 252) (p2 := 253) (tg := 260) (e_iload_n (k0 := 3) d_M_cut_251 rfl rfl) (e_iconst d_M_cut_252 (by decide)) d_M_cut_253 rfl) (e_iconst d_M_cut_256 (by decide)) d_M_cut_257 rfl (e_iconst d_M_cut_260 (by decide))) (a_cons (ι := Value.int) (k0 := 1) (p1 := 262) (fun _ => rfl) (e_iload_n (k0 := 1) d_M_cut_261 rfl rfl) (a_cons (ι := Value.int) (k0 := 1) (p1 := 264) (fun _ => rfl) (e_iload (k0 := 4) d_M_cut_262 rfl) (a_cons (ι := Value.long) (k0 := 2) (p1 := 265) (fun _ => rfl) (e_lconst d_M_cut_264 rfl) a_nil))))) (k_virt ok_M_token mf_M_token ⟨tw_1606, tw_52⟩ rfl tw_1604 d_M_cut_265 (by decide) (by decide) (by decide))) (s_goto (p1 := 272) (s_set (k0 := 1) (p1 := 271) (e_iadd (p1 := 269) (p2 := 270) (e_iload_n (k0 := 1) d_M_cut_268 rfl rfl) (e_iload_n (k0 := 3) d_M_cut_269 rfl rfl) d_M_cut_270) (t_istore_n d_M_cut_271 rfl (by decide)) rfl rfl) d_M_cut_272 rfl))))) rfl) (s_set (k0 := 1) (p1 := 290) (e_iadd (p1 := 276) (p2 := 289) (e_iload_n (k0 := 1) d_M_cut_275 rfl rfl) (e_cI (p1 := 286) (a_cons (ι := Value.ref) (k0 := 1) (p1 := 277) (fun _ => rfl) (e_aload_n (k0 := 0) d_M_cut_276 rfl rfl) (a_cons (ι := Value.int) (k0 := 1) (p1 := 278) (fun _ => rfl) (e_iload_n (k0 := 1) d_M_cut_277 rfl rfl) (a_cons (ι := Value.int) (k0 := 1) (p1 := 279) (fun _ => rfl) (e_iload_n (k0 := 2) d_M_cut_278 rfl rfl) (a_cons (ι := Value.int) (k0 := 1) (p1 := 286) (fun _ => rfl) (e_cI (p1 := 283) (a_cons (ι := Value.ref) (k0 := 1) (p1 := 280) (fun _ => rfl) (e_aload_n (k0 := 0) d_M_cut_279 rfl rfl) (a_cons (ι := Value.int) (k0 := 1) (p1 := 283) (fun _ => rfl) (e_iadd (p1 := 281) (p2 := 282) (e_iload_n (k0 := 1) d_M_cut_280 rfl rfl) (e_iconst d_M_cut_281 (by decide)) d_M_cut_282) a_nil)) (k_virt ok_M_byteAt mf_M_byteAt ⟨tw_1602, tw_51⟩ rfl tw_1600 d_M_cut_283 (by decide) (by decide) (by decide))) a_nil)))) (k_virt ok_M_sign mf_M_sign ⟨tw_1616, tw_53⟩ rfl tw_1614 d_M_cut_286 (by decide) (by decide) (by decide))) d_M_cut_289) (t_istore_n d_M_cut_290 rfl (by decide)) rfl rfl)))) d_M_cut_291 rfl))) rfl) s_skip) (s_retV rfl d_M_cut_294)))))
/-! BlinkerCrossModel.is(I)Z -/
abbrev y_M_is : MethodName := ⟨"BlinkerCrossModel", "is", "(I)Z"⟩
abbrev Y_M_is : Yt := (prog_14_method_14_code, 2, "BlinkerCrossModel", 0, (some .boolean), "is")
theorem d_M_is_0 : decode prog_14_method_14_code 0 = .ok (.aload_n 0, 1) := by decide +kernel
theorem d_M_is_1 : decode prog_14_method_14_code 1 = .ok (.getfield 212, 3) := by decide +kernel
theorem d_M_is_4 : decode prog_14_method_14_code 4 = .ok (.ifCond .ne 20, 3) := by decide +kernel
theorem d_M_is_7 : decode prog_14_method_14_code 7 = .ok (.aload_n 0, 1) := by decide +kernel
theorem d_M_is_8 : decode prog_14_method_14_code 8 = .ok (.getfield 20, 3) := by decide +kernel
theorem d_M_is_11 : decode prog_14_method_14_code 11 = .ok (.aload_n 0, 1) := by decide +kernel
theorem d_M_is_12 : decode prog_14_method_14_code 12 = .ok (.getfield 215, 3) := by decide +kernel
theorem d_M_is_15 : decode prog_14_method_14_code 15 = .ok (.iaload, 1) := by decide +kernel
theorem d_M_is_16 : decode prog_14_method_14_code 16 = .ok (.iload_n 1, 1) := by decide +kernel
theorem d_M_is_17 : decode prog_14_method_14_code 17 = .ok (.if_icmp .ne 7, 3) := by decide +kernel
theorem d_M_is_20 : decode prog_14_method_14_code 20 = .ok (.iconst 1, 1) := by decide +kernel
theorem d_M_is_21 : decode prog_14_method_14_code 21 = .ok (.goto 4, 3) := by decide +kernel
theorem d_M_is_24 : decode prog_14_method_14_code 24 = .ok (.iconst 0, 1) := by decide +kernel
theorem d_M_is_25 : decode prog_14_method_14_code 25 = .ok (.ireturn, 1) := by decide +kernel
noncomputable def F_M_is : Sm := sRetZ (bX (cAnd (o1 (fun x => decide (x = 0)) (gI 12 13 (vR 0))) (o2 (fun x y => decide (x = y)) (aI 0 (gR 12 5 (vR 0)) (gI 12 11 (vR 0))) (vI 1))))
theorem mf_M_is : Mf y_M_is prog_14_method_14_code 2 (some .boolean) 1 := ⟨tw_1621, tw_134, by decide +kernel⟩
noncomputable def D_M_is : Dn := runS [1, 1] F_M_is
theorem ok_M_is : MOK y_M_is prog_14_method_14_code 2 (some .boolean) 0 0 0 D_M_is := MOK.of (by decide) (by decide) (show SO Y_M_is [(0, 1), (1, 1)] [(0, 1), (1, 1)] 0 26 (([], 0), ([], 0)) F_M_is from
  (s_retZ (p1 := 25) (e_bool (pt := 20) (pf := 24) (c_and (p1 := 7) (c_if_neF (p1 := 4) (tg := 24) (e_gI (k0 := 13) (p1 := 1) cf_12 (e_aload_n (k0 := 0) d_M_is_0 rfl rfl) (by decide) tw_1373 d_M_is_1) d_M_is_4 rfl) (c_icmp_neF (p1 := 16) (p2 := 17) (tg := 24) (e_iald (p1 := 11) (p2 := 15) (e_gR (k0 := 5) (p1 := 8) cf_12 (e_aload_n (k0 := 0) d_M_is_7 rfl rfl) (by decide) tw_1365 d_M_is_8) (e_gI (k0 := 11) (p1 := 12) cf_12 (e_aload_n (k0 := 0) d_M_is_11 rfl rfl) (by decide) tw_1371 d_M_is_12) d_M_is_15) (e_iload_n (k0 := 1) d_M_is_16 rfl rfl) d_M_is_17 rfl)) d_M_is_20 d_M_is_21 rfl d_M_is_24 rfl) rfl d_M_is_25))
/-! BlinkerCrossModel.fail(I)V -/
abbrev y_M_fail : MethodName := ⟨"BlinkerCrossModel", "fail", "(I)V"⟩
abbrev Y_M_fail : Yt := (prog_14_method_15_code, 2, "BlinkerCrossModel", 0, none, "fail")
theorem d_M_fail_0 : decode prog_14_method_15_code 0 = .ok (.aload_n 0, 1) := by decide +kernel
theorem d_M_fail_1 : decode prog_14_method_15_code 1 = .ok (.getfield 212, 3) := by decide +kernel
theorem d_M_fail_4 : decode prog_14_method_15_code 4 = .ok (.ifCond .le 4, 3) := by decide +kernel
theorem d_M_fail_7 : decode prog_14_method_15_code 7 = .ok (.return_, 1) := by decide +kernel
theorem d_M_fail_8 : decode prog_14_method_15_code 8 = .ok (.aload_n 0, 1) := by decide +kernel
theorem d_M_fail_9 : decode prog_14_method_15_code 9 = .ok (.iload_n 1, 1) := by decide +kernel
theorem d_M_fail_10 : decode prog_14_method_15_code 10 = .ok (.putfield 212, 3) := by decide +kernel
theorem d_M_fail_13 : decode prog_14_method_15_code 13 = .ok (.aload_n 0, 1) := by decide +kernel
theorem d_M_fail_14 : decode prog_14_method_15_code 14 = .ok (.aload_n 0, 1) := by decide +kernel
theorem d_M_fail_15 : decode prog_14_method_15_code 15 = .ok (.getfield 24, 3) := by decide +kernel
theorem d_M_fail_18 : decode prog_14_method_15_code 18 = .ok (.aload_n 0, 1) := by decide +kernel
theorem d_M_fail_19 : decode prog_14_method_15_code 19 = .ok (.getfield 215, 3) := by decide +kernel
theorem d_M_fail_22 : decode prog_14_method_15_code 22 = .ok (.iaload, 1) := by decide +kernel
theorem d_M_fail_23 : decode prog_14_method_15_code 23 = .ok (.putfield 218, 3) := by decide +kernel
theorem d_M_fail_26 : decode prog_14_method_15_code 26 = .ok (.return_, 1) := by decide +kernel
noncomputable def F_M_fail : Sm := sSeq (sIf (o1 (fun x => decide (x > 0)) (gI 12 13 (vR 0))) (sRetV) (sSkip)) (sSeq (sPut 12 13 (vR 0) (asV Value.int (vI 1))) (sSeq (sPut 12 14 (vR 0) (asV Value.int (aI 0 (gR 12 6 (vR 0)) (gI 12 11 (vR 0))))) (sRetV)))
theorem mf_M_fail : Mf y_M_fail prog_14_method_15_code 2 none 1 := ⟨tw_1633, tw_134, by decide +kernel⟩
noncomputable def D_M_fail : Dn := runS [1, 1] F_M_fail
theorem ok_M_fail : MOK y_M_fail prog_14_method_15_code 2 none 0 0 0 D_M_fail := MOK.of (by decide) (by decide) (show SO Y_M_fail [(0, 1), (1, 1)] [(0, 1), (1, 1)] 0 27 (([], 0), ([], 0)) F_M_fail from
  (s_seq (sl1 := [(0, 1), (1, 1)]) (p1 := 8) (s_if (pt := 7) (pf := 8) (c_if_leF (p1 := 4) (tg := 8) (e_gI (k0 := 13) (p1 := 1) cf_12 (e_aload_n (k0 := 0) d_M_fail_0 rfl rfl) (by decide) tw_1373 d_M_fail_1) d_M_fail_4 rfl) (s_retV rfl d_M_fail_7) s_skip) (s_seq (sl1 := [(0, 1), (1, 1)]) (p1 := 13) (s_put (k0 := 13) (p1 := 9) (p2 := 10) cf_12 (e_aload_n (k0 := 0) d_M_fail_8 rfl rfl) (e_iload_n (k0 := 1) d_M_fail_9 rfl rfl) (by decide) fk_i tw_1373 (Or.inl rfl) d_M_fail_10) (s_seq (sl1 := [(0, 1), (1, 1)]) (p1 := 26) (s_put (k0 := 14) (p1 := 14) (p2 := 23) cf_12 (e_aload_n (k0 := 0) d_M_fail_13 rfl rfl) (e_iald (p1 := 18) (p2 := 22) (e_gR (k0 := 6) (p1 := 15) cf_12 (e_aload_n (k0 := 0) d_M_fail_14 rfl rfl) (by decide) tw_1366 d_M_fail_15) (e_gI (k0 := 11) (p1 := 19) cf_12 (e_aload_n (k0 := 0) d_M_fail_18 rfl rfl) (by decide) tw_1371 d_M_fail_19) d_M_fail_22) (by decide) fk_i tw_1374 (Or.inl rfl) d_M_fail_23) (s_retV rfl d_M_fail_26)))))
/-! BlinkerCrossModel.wrong(II)V -/
abbrev y_M_wrong : MethodName := ⟨"BlinkerCrossModel", "wrong", "(II)V"⟩
abbrev Y_M_wrong : Yt := (prog_14_method_16_code, 4, "BlinkerCrossModel", 0, none, "wrong")
theorem d_M_wrong_0 : decode prog_14_method_16_code 0 = .ok (.aload_n 0, 1) := by decide +kernel
theorem d_M_wrong_1 : decode prog_14_method_16_code 1 = .ok (.getfield 24, 3) := by decide +kernel
theorem d_M_wrong_4 : decode prog_14_method_16_code 4 = .ok (.iload_n 2, 1) := by decide +kernel
theorem d_M_wrong_5 : decode prog_14_method_16_code 5 = .ok (.iaload, 1) := by decide +kernel
theorem d_M_wrong_6 : decode prog_14_method_16_code 6 = .ok (.istore_n 3, 1) := by decide +kernel
theorem d_M_wrong_7 : decode prog_14_method_16_code 7 = .ok (.aload_n 0, 1) := by decide +kernel
theorem d_M_wrong_8 : decode prog_14_method_16_code 8 = .ok (.getfield 212, 3) := by decide +kernel
theorem d_M_wrong_11 : decode prog_14_method_16_code 11 = .ok (.ifCond .gt 34, 3) := by decide +kernel
theorem d_M_wrong_14 : decode prog_14_method_16_code 14 = .ok (.aload_n 0, 1) := by decide +kernel
theorem d_M_wrong_15 : decode prog_14_method_16_code 15 = .ok (.getfield 221, 3) := by decide +kernel
theorem d_M_wrong_18 : decode prog_14_method_16_code 18 = .ok (.ifCond .eq 28, 3) := by decide +kernel
theorem d_M_wrong_21 : decode prog_14_method_16_code 21 = .ok (.iload_n 3, 1) := by decide +kernel
theorem d_M_wrong_22 : decode prog_14_method_16_code 22 = .ok (.aload_n 0, 1) := by decide +kernel
theorem d_M_wrong_23 : decode prog_14_method_16_code 23 = .ok (.getfield 224, 3) := by decide +kernel
theorem d_M_wrong_26 : decode prog_14_method_16_code 26 = .ok (.if_icmp .gt 19, 3) := by decide +kernel
theorem d_M_wrong_29 : decode prog_14_method_16_code 29 = .ok (.iload_n 3, 1) := by decide +kernel
theorem d_M_wrong_30 : decode prog_14_method_16_code 30 = .ok (.aload_n 0, 1) := by decide +kernel
theorem d_M_wrong_31 : decode prog_14_method_16_code 31 = .ok (.getfield 224, 3) := by decide +kernel
theorem d_M_wrong_34 : decode prog_14_method_16_code 34 = .ok (.if_icmp .ne 12, 3) := by decide +kernel
theorem d_M_wrong_37 : decode prog_14_method_16_code 37 = .ok (.iload_n 1, 1) := by decide +kernel
theorem d_M_wrong_38 : decode prog_14_method_16_code 38 = .ok (.aload_n 0, 1) := by decide +kernel
theorem d_M_wrong_39 : decode prog_14_method_16_code 39 = .ok (.getfield 221, 3) := by decide +kernel
theorem d_M_wrong_42 : decode prog_14_method_16_code 42 = .ok (.if_icmp .lt 4, 3) := by decide +kernel
theorem d_M_wrong_45 : decode prog_14_method_16_code 45 = .ok (.return_, 1) := by decide +kernel
theorem d_M_wrong_46 : decode prog_14_method_16_code 46 = .ok (.aload_n 0, 1) := by decide +kernel
theorem d_M_wrong_47 : decode prog_14_method_16_code 47 = .ok (.iload_n 1, 1) := by decide +kernel
theorem d_M_wrong_48 : decode prog_14_method_16_code 48 = .ok (.putfield 221, 3) := by decide +kernel
theorem d_M_wrong_51 : decode prog_14_method_16_code 51 = .ok (.aload_n 0, 1) := by decide +kernel
theorem d_M_wrong_52 : decode prog_14_method_16_code 52 = .ok (.iload_n 3, 1) := by decide +kernel
theorem d_M_wrong_53 : decode prog_14_method_16_code 53 = .ok (.putfield 224, 3) := by decide +kernel
theorem d_M_wrong_56 : decode prog_14_method_16_code 56 = .ok (.return_, 1) := by decide +kernel
noncomputable def F_M_wrong : Sm := sSeq (sDecl (asV Value.int (aI 0 (gR 12 6 (vR 0)) (vI 2)))) (sSeq (sIf (cOr (o1 (fun x => decide (x > 0)) (gI 12 13 (vR 0))) (cAnd (o1 (fun x => decide (x ≠ 0)) (gI 12 15 (vR 0))) (cOr (o2 (fun x y => decide (x > y)) (vI 3) (gI 12 16 (vR 0))) (cAnd (o2 (fun x y => decide (x = y)) (vI 3) (gI 12 16 (vR 0))) (o2 (fun x y => decide (x ≥ y)) (vI 1) (gI 12 15 (vR 0))))))) (sRetV) (sSkip)) (sSeq (sPut 12 15 (vR 0) (asV Value.int (vI 1))) (sSeq (sPut 12 16 (vR 0) (asV Value.int (vI 3))) (sRetV))))
theorem mf_M_wrong : Mf y_M_wrong prog_14_method_16_code 4 none 2 := ⟨tw_1649, tw_134, by decide +kernel⟩
noncomputable def D_M_wrong : Dn := runS [1, 1, 1] F_M_wrong
theorem ok_M_wrong : MOK y_M_wrong prog_14_method_16_code 4 none 0 0 0 D_M_wrong := MOK.of (by decide) (by decide) (show SO Y_M_wrong [(0, 1), (1, 1), (2, 1)] [(0, 1), (1, 1), (2, 1), (3, 1)] 0 57 (([], 0), ([], 0)) F_M_wrong from
  (s_seq (sl1 := [(0, 1), (1, 1), (2, 1), (3, 1)]) (p1 := 7) (s_decl (p1 := 6) (e_iald (p1 := 4) (p2 := 5) (e_gR (k0 := 6) (p1 := 1) cf_12 (e_aload_n (k0 := 0) d_M_wrong_0 rfl rfl) (by decide) tw_1366 d_M_wrong_1) (e_iload_n (k0 := 2) d_M_wrong_4 rfl rfl) d_M_wrong_5) (t_istore_n d_M_wrong_6 rfl (by decide)) rfl) (s_seq (sl1 := [(0, 1), (1, 1), (2, 1), (3, 1)]) (p1 := 46) (s_if (pt := 45) (pf := 46) (c_or (p1 := 14) (c_if_gtT (p1 := 11) (tg := 45) (e_gI (k0 := 13) (p1 := 8) cf_12 (e_aload_n (k0 := 0) d_M_wrong_7 rfl rfl) (by decide) tw_1373 d_M_wrong_8) d_M_wrong_11 rfl) (c_and (p1 := 21) (c_if_eqF (p1 := 18) (tg := 46) (e_gI (k0 := 15) (p1 := 15) cf_12 (e_aload_n (k0 := 0) d_M_wrong_14 rfl rfl) (by decide) tw_1375 d_M_wrong_15) d_M_wrong_18 rfl) (c_or (p1 := 29) (c_icmp_gtT (p1 := 22) (p2 := 26) (tg := 45) (e_iload_n (k0 := 3) d_M_wrong_21 rfl rfl) (e_gI (k0 := 16) (p1 := 23) cf_12 (e_aload_n (k0 := 0) d_M_wrong_22 rfl rfl) (by decide) tw_1376 d_M_wrong_23) d_M_wrong_26 rfl) (c_and (p1 := 37) (c_icmp_neF (p1 := 30) (p2 := 34) (tg := 46) (e_iload_n (k0 := 3) d_M_wrong_29 rfl rfl) (e_gI (k0 := 16) (p1 := 31) cf_12 (e_aload_n (k0 := 0) d_M_wrong_30 rfl rfl) (by decide) tw_1376 d_M_wrong_31) d_M_wrong_34 rfl) (c_icmp_ltF (p1 := 38) (p2 := 42) (tg := 46) (e_iload_n (k0 := 1) d_M_wrong_37 rfl rfl) (e_gI (k0 := 15) (p1 := 39) cf_12 (e_aload_n (k0 := 0) d_M_wrong_38 rfl rfl) (by decide) tw_1375 d_M_wrong_39) d_M_wrong_42 rfl))))) (s_retV rfl d_M_wrong_45) s_skip) (s_seq (sl1 := [(0, 1), (1, 1), (2, 1), (3, 1)]) (p1 := 51) (s_put (k0 := 15) (p1 := 47) (p2 := 48) cf_12 (e_aload_n (k0 := 0) d_M_wrong_46 rfl rfl) (e_iload_n (k0 := 1) d_M_wrong_47 rfl rfl) (by decide) fk_i tw_1375 (Or.inl rfl) d_M_wrong_48) (s_seq (sl1 := [(0, 1), (1, 1), (2, 1), (3, 1)]) (p1 := 56) (s_put (k0 := 16) (p1 := 52) (p2 := 53) cf_12 (e_aload_n (k0 := 0) d_M_wrong_51 rfl rfl) (e_iload_n (k0 := 3) d_M_wrong_52 rfl rfl) (by decide) fk_i tw_1376 (Or.inl rfl) d_M_wrong_53) (s_retV rfl d_M_wrong_56))))))
/-! BlinkerCrossModel.goesOn()V -/
abbrev y_M_goesOn : MethodName := ⟨"BlinkerCrossModel", "goesOn", "()V"⟩
abbrev Y_M_goesOn : Yt := (prog_14_method_17_code, 1, "BlinkerCrossModel", 1, none, "goesOn")
theorem d_M_goesOn_0 : decode prog_14_method_17_code 0 = .ok (.aload_n 0, 1) := by decide +kernel
theorem d_M_goesOn_1 : decode prog_14_method_17_code 1 = .ok (.getfield 215, 3) := by decide +kernel
theorem d_M_goesOn_4 : decode prog_14_method_17_code 4 = .ok (.sipush 400, 3) := by decide +kernel
theorem d_M_goesOn_7 : decode prog_14_method_17_code 7 = .ok (.if_icmp .ne 11, 3) := by decide +kernel
theorem d_M_goesOn_10 : decode prog_14_method_17_code 10 = .ok (.aload_n 0, 1) := by decide +kernel
theorem d_M_goesOn_11 : decode prog_14_method_17_code 11 = .ok (.iconst 2, 1) := by decide +kernel
theorem d_M_goesOn_12 : decode prog_14_method_17_code 12 = .ok (.invokevirtual 227, 3) := by decide +kernel
theorem d_M_goesOn_15 : decode prog_14_method_17_code 15 = .ok (.goto 13, 3) := by decide +kernel
theorem d_M_goesOn_18 : decode prog_14_method_17_code 18 = .ok (.aload_n 0, 1) := by decide +kernel
theorem d_M_goesOn_19 : decode prog_14_method_17_code 19 = .ok (.dup, 1) := by decide +kernel
theorem d_M_goesOn_20 : decode prog_14_method_17_code 20 = .ok (.getfield 215, 3) := by decide +kernel
theorem d_M_goesOn_23 : decode prog_14_method_17_code 23 = .ok (.iconst 1, 1) := by decide +kernel
theorem d_M_goesOn_24 : decode prog_14_method_17_code 24 = .ok (.iadd, 1) := by decide +kernel
theorem d_M_goesOn_25 : decode prog_14_method_17_code 25 = .ok (.putfield 215, 3) := by decide +kernel
theorem d_M_goesOn_28 : decode prog_14_method_17_code 28 = .ok (.return_, 1) := by decide +kernel
noncomputable def F_M_goesOn : Sm := sSeq (sIf (o2 (fun x y => decide (x = y)) (gI 12 11 (vR 0)) (kI (ii 400))) (sCall (mV 12 D_M_fail) [asV Value.ref (vR 0), asV Value.int (kI (ii 2))]) (sFop 12 11 (vR 0) (fun x y => x + y) (kI (ii 1)))) (sRetV)
theorem mf_M_goesOn : Mf y_M_goesOn prog_14_method_17_code 1 none 0 := ⟨tw_1637, tw_134, by decide +kernel⟩
noncomputable def D_M_goesOn : Dn := runS [1] F_M_goesOn
theorem ok_M_goesOn : MOK y_M_goesOn prog_14_method_17_code 1 none 1 0 0 D_M_goesOn := MOK.of (by decide) (by decide) (show SO Y_M_goesOn [(0, 1)] [(0, 1)] 0 29 (([], 0), ([], 0)) F_M_goesOn from
  (s_seq (sl1 := [(0, 1)]) (p1 := 28) (s_if (pt := 10) (pf := 18) (p1 := 28) (c_icmp_neF (p1 := 4) (p2 := 7) (tg := 18) (e_gI (k0 := 11) (p1 := 1) cf_12 (e_aload_n (k0 := 0) d_M_goesOn_0 rfl rfl) (by decide) tw_1371 d_M_goesOn_1) (e_sipush d_M_goesOn_4 (by decide)) d_M_goesOn_7 rfl) (s_goto (p1 := 15) (s_call (p1 := 12) (a_cons (ι := Value.ref) (k0 := 1) (p1 := 11) (fun _ => rfl) (e_aload_n (k0 := 0) d_M_goesOn_10 rfl rfl) (a_cons (ι := Value.int) (k0 := 1) (p1 := 12) (fun _ => rfl) (e_iconst d_M_goesOn_11 (by decide)) a_nil)) (k_virt ok_M_fail mf_M_fail ⟨tw_1632, tw_57⟩ rfl tw_1630 d_M_goesOn_12 (by decide) (by decide) (by decide))) d_M_goesOn_15 rfl) (s_fop (k0 := 11) (p1 := 19) (p2 := 24) cf_12 (e_aload_n (k0 := 0) d_M_goesOn_18 rfl rfl) d_M_goesOn_19 d_M_goesOn_20 (e_iconst d_M_goesOn_23 (by decide)) (op_iadd d_M_goesOn_24) (by decide) rfl tw_1371 tw_1371 rfl d_M_goesOn_25)) (s_retV rfl d_M_goesOn_28)))
/-! BlinkerCrossModel.must(I)V -/
abbrev y_M_must : MethodName := ⟨"BlinkerCrossModel", "must", "(I)V"⟩
abbrev Y_M_must : Yt := (prog_14_method_18_code, 2, "BlinkerCrossModel", 2, none, "must")
theorem d_M_must_0 : decode prog_14_method_18_code 0 = .ok (.aload_n 0, 1) := by decide +kernel
theorem d_M_must_1 : decode prog_14_method_18_code 1 = .ok (.iload_n 1, 1) := by decide +kernel
theorem d_M_must_2 : decode prog_14_method_18_code 2 = .ok (.invokevirtual 230, 3) := by decide +kernel
theorem d_M_must_5 : decode prog_14_method_18_code 5 = .ok (.ifCond .eq 10, 3) := by decide +kernel
theorem d_M_must_8 : decode prog_14_method_18_code 8 = .ok (.aload_n 0, 1) := by decide +kernel
theorem d_M_must_9 : decode prog_14_method_18_code 9 = .ok (.invokevirtual 233, 3) := by decide +kernel
theorem d_M_must_12 : decode prog_14_method_18_code 12 = .ok (.goto 8, 3) := by decide +kernel
theorem d_M_must_15 : decode prog_14_method_18_code 15 = .ok (.aload_n 0, 1) := by decide +kernel
theorem d_M_must_16 : decode prog_14_method_18_code 16 = .ok (.iconst 1, 1) := by decide +kernel
theorem d_M_must_17 : decode prog_14_method_18_code 17 = .ok (.invokevirtual 227, 3) := by decide +kernel
theorem d_M_must_20 : decode prog_14_method_18_code 20 = .ok (.return_, 1) := by decide +kernel
noncomputable def F_M_must : Sm := sSeq (sIf (o1 (fun x => decide (x ≠ 0)) (cI (mV 12 D_M_is) [asV Value.ref (vR 0), asV Value.int (vI 1)])) (sCall (mV 12 D_M_goesOn) [asV Value.ref (vR 0)]) (sCall (mV 12 D_M_fail) [asV Value.ref (vR 0), asV Value.int (kI (ii 1))])) (sRetV)
theorem mf_M_must : Mf y_M_must prog_14_method_18_code 2 none 1 := ⟨tw_1645, tw_134, by decide +kernel⟩
noncomputable def D_M_must : Dn := runS [1, 1] F_M_must
theorem ok_M_must : MOK y_M_must prog_14_method_18_code 2 none 2 0 0 D_M_must := MOK.of (by decide) (by decide) (show SO Y_M_must [(0, 1), (1, 1)] [(0, 1), (1, 1)] 0 21 (([], 0), ([], 0)) F_M_must from
  (s_seq (sl1 := [(0, 1), (1, 1)]) (p1 := 20) (s_if (pt := 8) (pf := 15) (p1 := 20) (c_if_eqF (p1 := 5) (tg := 15) (e_cI (p1 := 2) (a_cons (ι := Value.ref) (k0 := 1) (p1 := 1) (fun _ => rfl) (e_aload_n (k0 := 0) d_M_must_0 rfl rfl) (a_cons (ι := Value.int) (k0 := 1) (p1 := 2) (fun _ => rfl) (e_iload_n (k0 := 1) d_M_must_1 rfl rfl) a_nil)) (k_virt ok_M_is mf_M_is ⟨tw_1620, tw_54⟩ rfl tw_1618 d_M_must_2 (by decide) (by decide) (by decide))) d_M_must_5 rfl) (s_goto (p1 := 12) (s_call (p1 := 9) (a_cons (ι := Value.ref) (k0 := 1) (p1 := 9) (fun _ => rfl) (e_aload_n (k0 := 0) d_M_must_8 rfl rfl) a_nil) (k_virt ok_M_goesOn mf_M_goesOn ⟨tw_1636, tw_58⟩ rfl tw_1634 d_M_must_9 (by decide) (by decide) (by decide))) d_M_must_12 rfl) (s_call (p1 := 17) (a_cons (ι := Value.ref) (k0 := 1) (p1 := 16) (fun _ => rfl) (e_aload_n (k0 := 0) d_M_must_15 rfl rfl) (a_cons (ι := Value.int) (k0 := 1) (p1 := 17) (fun _ => rfl) (e_iconst d_M_must_16 (by decide)) a_nil)) (k_virt ok_M_fail mf_M_fail ⟨tw_1632, tw_57⟩ rfl tw_1630 d_M_must_17 (by decide) (by decide) (by decide)))) (s_retV rfl d_M_must_20)))
/-! BlinkerCrossModel.plain(I)V -/
abbrev y_M_plain : MethodName := ⟨"BlinkerCrossModel", "plain", "(I)V"⟩
abbrev Y_M_plain : Yt := (prog_14_method_19_code, 3, "BlinkerCrossModel", 0, none, "plain")
theorem d_M_plain_0 : decode prog_14_method_19_code 0 = .ok (.aload_n 0, 1) := by decide +kernel
theorem d_M_plain_1 : decode prog_14_method_19_code 1 = .ok (.getfield 46, 3) := by decide +kernel
theorem d_M_plain_4 : decode prog_14_method_19_code 4 = .ok (.iload_n 1, 1) := by decide +kernel
theorem d_M_plain_5 : decode prog_14_method_19_code 5 = .ok (.iconst 0, 1) := by decide +kernel
theorem d_M_plain_6 : decode prog_14_method_19_code 6 = .ok (.iastore, 1) := by decide +kernel
theorem d_M_plain_7 : decode prog_14_method_19_code 7 = .ok (.aload_n 0, 1) := by decide +kernel
theorem d_M_plain_8 : decode prog_14_method_19_code 8 = .ok (.getfield 52, 3) := by decide +kernel
theorem d_M_plain_11 : decode prog_14_method_19_code 11 = .ok (.iload_n 1, 1) := by decide +kernel
theorem d_M_plain_12 : decode prog_14_method_19_code 12 = .ok (.iconst 0, 1) := by decide +kernel
theorem d_M_plain_13 : decode prog_14_method_19_code 13 = .ok (.iastore, 1) := by decide +kernel
theorem d_M_plain_14 : decode prog_14_method_19_code 14 = .ok (.aload_n 0, 1) := by decide +kernel
theorem d_M_plain_15 : decode prog_14_method_19_code 15 = .ok (.getfield 61, 3) := by decide +kernel
theorem d_M_plain_18 : decode prog_14_method_19_code 18 = .ok (.iload_n 1, 1) := by decide +kernel
theorem d_M_plain_19 : decode prog_14_method_19_code 19 = .ok (.iconst 0, 1) := by decide +kernel
theorem d_M_plain_20 : decode prog_14_method_19_code 20 = .ok (.iastore, 1) := by decide +kernel
theorem d_M_plain_21 : decode prog_14_method_19_code 21 = .ok (.aload_n 0, 1) := by decide +kernel
theorem d_M_plain_22 : decode prog_14_method_19_code 22 = .ok (.getfield 67, 3) := by decide +kernel
theorem d_M_plain_25 : decode prog_14_method_19_code 25 = .ok (.iload_n 1, 1) := by decide +kernel
theorem d_M_plain_26 : decode prog_14_method_19_code 26 = .ok (.iconst 0, 1) := by decide +kernel
theorem d_M_plain_27 : decode prog_14_method_19_code 27 = .ok (.iastore, 1) := by decide +kernel
theorem d_M_plain_28 : decode prog_14_method_19_code 28 = .ok (.iconst 0, 1) := by decide +kernel
theorem d_M_plain_29 : decode prog_14_method_19_code 29 = .ok (.istore_n 2, 1) := by decide +kernel
theorem d_M_plain_30 : decode prog_14_method_19_code 30 = .ok (.iload_n 2, 1) := by decide +kernel
theorem d_M_plain_31 : decode prog_14_method_19_code 31 = .ok (.bipush 30, 2) := by decide +kernel
theorem d_M_plain_33 : decode prog_14_method_19_code 33 = .ok (.if_icmp .ge 21, 3) := by decide +kernel
theorem d_M_plain_36 : decode prog_14_method_19_code 36 = .ok (.aload_n 0, 1) := by decide +kernel
theorem d_M_plain_37 : decode prog_14_method_19_code 37 = .ok (.getfield 64, 3) := by decide +kernel
theorem d_M_plain_40 : decode prog_14_method_19_code 40 = .ok (.bipush 30, 2) := by decide +kernel
theorem d_M_plain_42 : decode prog_14_method_19_code 42 = .ok (.iload_n 1, 1) := by decide +kernel
theorem d_M_plain_43 : decode prog_14_method_19_code 43 = .ok (.imul, 1) := by decide +kernel
theorem d_M_plain_44 : decode prog_14_method_19_code 44 = .ok (.iload_n 2, 1) := by decide +kernel
theorem d_M_plain_45 : decode prog_14_method_19_code 45 = .ok (.iadd, 1) := by decide +kernel
theorem d_M_plain_46 : decode prog_14_method_19_code 46 = .ok (.iconst 0, 1) := by decide +kernel
theorem d_M_plain_47 : decode prog_14_method_19_code 47 = .ok (.iastore, 1) := by decide +kernel
theorem d_M_plain_48 : decode prog_14_method_19_code 48 = .ok (.iinc 2 1, 3) := by decide +kernel
theorem d_M_plain_51 : decode prog_14_method_19_code 51 = .ok (.goto (-21), 3) := by decide +kernel
theorem d_M_plain_54 : decode prog_14_method_19_code 54 = .ok (.iconst 0, 1) := by decide +kernel
theorem d_M_plain_55 : decode prog_14_method_19_code 55 = .ok (.istore_n 2, 1) := by decide +kernel
theorem d_M_plain_56 : decode prog_14_method_19_code 56 = .ok (.iload_n 2, 1) := by decide +kernel
theorem d_M_plain_57 : decode prog_14_method_19_code 57 = .ok (.iconst 4, 1) := by decide +kernel
theorem d_M_plain_58 : decode prog_14_method_19_code 58 = .ok (.if_icmp .ge 31, 3) := by decide +kernel
theorem d_M_plain_61 : decode prog_14_method_19_code 61 = .ok (.aload_n 0, 1) := by decide +kernel
theorem d_M_plain_62 : decode prog_14_method_19_code 62 = .ok (.getfield 70, 3) := by decide +kernel
theorem d_M_plain_65 : decode prog_14_method_19_code 65 = .ok (.iconst 4, 1) := by decide +kernel
theorem d_M_plain_66 : decode prog_14_method_19_code 66 = .ok (.iload_n 1, 1) := by decide +kernel
theorem d_M_plain_67 : decode prog_14_method_19_code 67 = .ok (.imul, 1) := by decide +kernel
theorem d_M_plain_68 : decode prog_14_method_19_code 68 = .ok (.iload_n 2, 1) := by decide +kernel
theorem d_M_plain_69 : decode prog_14_method_19_code 69 = .ok (.iadd, 1) := by decide +kernel
theorem d_M_plain_70 : decode prog_14_method_19_code 70 = .ok (.iconst 0, 1) := by decide +kernel
theorem d_M_plain_71 : decode prog_14_method_19_code 71 = .ok (.iastore, 1) := by decide +kernel
theorem d_M_plain_72 : decode prog_14_method_19_code 72 = .ok (.aload_n 0, 1) := by decide +kernel
theorem d_M_plain_73 : decode prog_14_method_19_code 73 = .ok (.getfield 73, 3) := by decide +kernel
theorem d_M_plain_76 : decode prog_14_method_19_code 76 = .ok (.iconst 4, 1) := by decide +kernel
theorem d_M_plain_77 : decode prog_14_method_19_code 77 = .ok (.iload_n 1, 1) := by decide +kernel
theorem d_M_plain_78 : decode prog_14_method_19_code 78 = .ok (.imul, 1) := by decide +kernel
theorem d_M_plain_79 : decode prog_14_method_19_code 79 = .ok (.iload_n 2, 1) := by decide +kernel
theorem d_M_plain_80 : decode prog_14_method_19_code 80 = .ok (.iadd, 1) := by decide +kernel
theorem d_M_plain_81 : decode prog_14_method_19_code 81 = .ok (.iconst 0, 1) := by decide +kernel
theorem d_M_plain_82 : decode prog_14_method_19_code 82 = .ok (.iastore, 1) := by decide +kernel
theorem d_M_plain_83 : decode prog_14_method_19_code 83 = .ok (.iinc 2 1, 3) := by decide +kernel
theorem d_M_plain_86 : decode prog_14_method_19_code 86 = .ok (.goto (-30), 3) := by decide +kernel
theorem d_M_plain_89 : decode prog_14_method_19_code 89 = .ok (.return_, 1) := by decide +kernel
noncomputable def Lc_M_plain_1 : Xp Bool := o2 (fun x y => decide (x < y)) (vI 2) (kI (ii 30))
noncomputable def Lb_M_plain_1 : Sm := sAst 0 (gR 12 29 (vR 0)) (o2 (fun x y => x + y) (o2 (fun x y => x * y) (kI (ii 30)) (vI 1)) (vI 2)) (kI (ii 0))
noncomputable def Lu_M_plain_1 : Sm := sInc 2 (ii 1)
noncomputable def Lc_M_plain_2 : Xp Bool := o2 (fun x y => decide (x < y)) (vI 2) (kI (ii 4))
noncomputable def Lb_M_plain_2 : Sm := sSeq (sAst 0 (gR 12 31 (vR 0)) (o2 (fun x y => x + y) (o2 (fun x y => x * y) (kI (ii 4)) (vI 1)) (vI 2)) (kI (ii 0))) (sAst 0 (gR 12 32 (vR 0)) (o2 (fun x y => x + y) (o2 (fun x y => x * y) (kI (ii 4)) (vI 1)) (vI 2)) (kI (ii 0)))
noncomputable def Lu_M_plain_2 : Sm := sInc 2 (ii 1)
noncomputable def F_M_plain : Sm := sSeq (sAst 0 (gR 12 23 (vR 0)) (vI 1) (kI (ii 0))) (sSeq (sAst 0 (gR 12 25 (vR 0)) (vI 1) (kI (ii 0))) (sSeq (sAst 0 (gR 12 28 (vR 0)) (vI 1) (kI (ii 0))) (sSeq (sAst 0 (gR 12 30 (vR 0)) (vI 1) (kI (ii 0))) (sSeq (sBlk 2 (sSeq (sDecl (asV Value.int (kI (ii 0)))) (sWh (Lc_M_plain_1) (Lb_M_plain_1) Lu_M_plain_1))) (sSeq (sBlk 2 (sSeq (sDecl (asV Value.int (kI (ii 0)))) (sWh (Lc_M_plain_2) (Lb_M_plain_2) Lu_M_plain_2))) (sRetV))))))
theorem mf_M_plain : Mf y_M_plain prog_14_method_19_code 3 none 1 := ⟨tw_1345, tw_134, by decide +kernel⟩
noncomputable def D_M_plain : Dn := runS [1, 1] F_M_plain
theorem ok_M_plain : MOK y_M_plain prog_14_method_19_code 3 none 0 0 0 D_M_plain := MOK.of (by decide) (by decide) (show SO Y_M_plain [(0, 1), (1, 1)] [(0, 1), (1, 1)] 0 90 (([], 0), ([], 0)) F_M_plain from
  (s_seq (sl1 := [(0, 1), (1, 1)]) (p1 := 7) (s_ast (p1 := 4) (p2 := 5) (p3 := 6) (e_gR (k0 := 23) (p1 := 1) cf_12 (e_aload_n (k0 := 0) d_M_plain_0 rfl rfl) (by decide) tw_1383 d_M_plain_1) (e_iload_n (k0 := 1) d_M_plain_4 rfl rfl) (e_iconst d_M_plain_5 (by decide)) (as_i d_M_plain_6)) (s_seq (sl1 := [(0, 1), (1, 1)]) (p1 := 14) (s_ast (p1 := 11) (p2 := 12) (p3 := 13) (e_gR (k0 := 25) (p1 := 8) cf_12 (e_aload_n (k0 := 0) d_M_plain_7 rfl rfl) (by decide) tw_1385 d_M_plain_8) (e_iload_n (k0 := 1) d_M_plain_11 rfl rfl) (e_iconst d_M_plain_12 (by decide)) (as_i d_M_plain_13)) (s_seq (sl1 := [(0, 1), (1, 1)]) (p1 := 21) (s_ast (p1 := 18) (p2 := 19) (p3 := 20) (e_gR (k0 := 28) (p1 := 15) cf_12 (e_aload_n (k0 := 0) d_M_plain_14 rfl rfl) (by decide) tw_1388 d_M_plain_15) (e_iload_n (k0 := 1) d_M_plain_18 rfl rfl) (e_iconst d_M_plain_19 (by decide)) (as_i d_M_plain_20)) (s_seq (sl1 := [(0, 1), (1, 1)]) (p1 := 28) (s_ast (p1 := 25) (p2 := 26) (p3 := 27) (e_gR (k0 := 30) (p1 := 22) cf_12 (e_aload_n (k0 := 0) d_M_plain_21 rfl rfl) (by decide) tw_1390 d_M_plain_22) (e_iload_n (k0 := 1) d_M_plain_25 rfl rfl) (e_iconst d_M_plain_26 (by decide)) (as_i d_M_plain_27)) (s_seq (sl1 := [(0, 1), (1, 1)]) (p1 := 54) (s_blk (sl1 := [(0, 1), (1, 1), (2, 1)]) (s_seq (sl1 := [(0, 1), (1, 1), (2, 1)]) (p1 := 30) (s_decl (p1 := 29) (e_iconst d_M_plain_28 (by decide)) (t_istore_n d_M_plain_29 rfl (by decide)) rfl) (s_for (pt := 36) (pu := 48) (pf := 54) (pg := 0) (c_icmp_geF (p1 := 31) (p2 := 33) (tg := 54) (e_iload_n (k0 := 2) d_M_plain_30 rfl rfl) (e_bipush d_M_plain_31 (by decide)) d_M_plain_33 rfl) (s_ast (p1 := 40) (p2 := 46) (p3 := 47) (e_gR (k0 := 29) (p1 := 37) cf_12 (e_aload_n (k0 := 0) d_M_plain_36 rfl rfl) (by decide) tw_1389 d_M_plain_37) (e_iadd (p1 := 44) (p2 := 45) (e_imul (p1 := 42) (p2 := 43) (e_bipush d_M_plain_40 (by decide)) (e_iload_n (k0 := 1) d_M_plain_42 rfl rfl) d_M_plain_43) (e_iload_n (k0 := 2) d_M_plain_44 rfl rfl) d_M_plain_45) (e_iconst d_M_plain_46 (by decide)) (as_i d_M_plain_47)) (s_goto (p1 := 51) (s_inc (k0 := 2) d_M_plain_48 rfl rfl (Nat.le_of_ble_eq_true rfl) rfl) d_M_plain_51 rfl))) rfl) (s_seq (sl1 := [(0, 1), (1, 1)]) (p1 := 89) (s_blk (sl1 := [(0, 1), (1, 1), (2, 1)]) (s_seq (sl1 := [(0, 1), (1, 1), (2, 1)]) (p1 := 56) (s_decl (p1 := 55) (e_iconst d_M_plain_54 (by decide)) (t_istore_n d_M_plain_55 rfl (by decide)) rfl) (s_for (pt := 61) (pu := 83) (pf := 89) (pg := 0) (c_icmp_geF (p1 := 57) (p2 := 58) (tg := 89) (e_iload_n (k0 := 2) d_M_plain_56 rfl rfl) (e_iconst d_M_plain_57 (by decide)) d_M_plain_58 rfl) (s_seq (sl1 := [(0, 1), (1, 1), (2, 1)]) (p1 := 72) (s_ast (p1 := 65) (p2 := 70) (p3 := 71) (e_gR (k0 := 31) (p1 := 62) cf_12 (e_aload_n (k0 := 0) d_M_plain_61 rfl rfl) (by decide) tw_1391 d_M_plain_62) (e_iadd (p1 := 68) (p2 := 69) (e_imul (p1 := 66) (p2 := 67) (e_iconst d_M_plain_65 (by decide)) (e_iload_n (k0 := 1) d_M_plain_66 rfl rfl) d_M_plain_67) (e_iload_n (k0 := 2) d_M_plain_68 rfl rfl) d_M_plain_69) (e_iconst d_M_plain_70 (by decide)) (as_i d_M_plain_71)) (s_ast (p1 := 76) (p2 := 81) (p3 := 82) (e_gR (k0 := 32) (p1 := 73) cf_12 (e_aload_n (k0 := 0) d_M_plain_72 rfl rfl) (by decide) tw_1392 d_M_plain_73) (e_iadd (p1 := 79) (p2 := 80) (e_imul (p1 := 77) (p2 := 78) (e_iconst d_M_plain_76 (by decide)) (e_iload_n (k0 := 1) d_M_plain_77 rfl rfl) d_M_plain_78) (e_iload_n (k0 := 2) d_M_plain_79 rfl rfl) d_M_plain_80) (e_iconst d_M_plain_81 (by decide)) (as_i d_M_plain_82))) (s_goto (p1 := 86) (s_inc (k0 := 2) d_M_plain_83 rfl rfl (Nat.le_of_ble_eq_true rfl) rfl) d_M_plain_86 rfl))) rfl) (s_retV rfl d_M_plain_89))))))))
/-! BlinkerCrossModel.roomFor(II)V -/
abbrev y_M_roomFor : MethodName := ⟨"BlinkerCrossModel", "roomFor", "(II)V"⟩
abbrev Y_M_roomFor : Yt := (prog_14_method_22_code, 3, "BlinkerCrossModel", 2, none, "roomFor")
theorem d_M_roomFor_0 : decode prog_14_method_22_code 0 = .ok (.iload_n 1, 1) := by decide +kernel
theorem d_M_roomFor_1 : decode prog_14_method_22_code 1 = .ok (.iload_n 2, 1) := by decide +kernel
theorem d_M_roomFor_2 : decode prog_14_method_22_code 2 = .ok (.if_icmp .ne 8, 3) := by decide +kernel
theorem d_M_roomFor_5 : decode prog_14_method_22_code 5 = .ok (.aload_n 0, 1) := by decide +kernel
theorem d_M_roomFor_6 : decode prog_14_method_22_code 6 = .ok (.iconst 2, 1) := by decide +kernel
theorem d_M_roomFor_7 : decode prog_14_method_22_code 7 = .ok (.invokevirtual 227, 3) := by decide +kernel
theorem d_M_roomFor_10 : decode prog_14_method_22_code 10 = .ok (.aload_n 0, 1) := by decide +kernel
theorem d_M_roomFor_11 : decode prog_14_method_22_code 11 = .ok (.getfield 212, 3) := by decide +kernel
theorem d_M_roomFor_14 : decode prog_14_method_22_code 14 = .ok (.ifCond .ne 7, 3) := by decide +kernel
theorem d_M_roomFor_17 : decode prog_14_method_22_code 17 = .ok (.aload_n 0, 1) := by decide +kernel
theorem d_M_roomFor_18 : decode prog_14_method_22_code 18 = .ok (.invokevirtual 233, 3) := by decide +kernel
theorem d_M_roomFor_21 : decode prog_14_method_22_code 21 = .ok (.return_, 1) := by decide +kernel
noncomputable def F_M_roomFor : Sm := sSeq (sIf (o2 (fun x y => decide (x = y)) (vI 1) (vI 2)) (sCall (mV 12 D_M_fail) [asV Value.ref (vR 0), asV Value.int (kI (ii 2))]) (sSkip)) (sSeq (sIf (o1 (fun x => decide (x = 0)) (gI 12 13 (vR 0))) (sCall (mV 12 D_M_goesOn) [asV Value.ref (vR 0)]) (sSkip)) (sRetV))
theorem mf_M_roomFor : Mf y_M_roomFor prog_14_method_22_code 3 none 2 := ⟨tw_1629, tw_134, by decide +kernel⟩
noncomputable def D_M_roomFor : Dn := runS [1, 1, 1] F_M_roomFor
theorem ok_M_roomFor : MOK y_M_roomFor prog_14_method_22_code 3 none 2 0 0 D_M_roomFor := MOK.of (by decide) (by decide) (show SO Y_M_roomFor [(0, 1), (1, 1), (2, 1)] [(0, 1), (1, 1), (2, 1)] 0 22 (([], 0), ([], 0)) F_M_roomFor from
  (s_seq (sl1 := [(0, 1), (1, 1), (2, 1)]) (p1 := 10) (s_if (pt := 5) (pf := 10) (c_icmp_neF (p1 := 1) (p2 := 2) (tg := 10) (e_iload_n (k0 := 1) d_M_roomFor_0 rfl rfl) (e_iload_n (k0 := 2) d_M_roomFor_1 rfl rfl) d_M_roomFor_2 rfl) (s_call (p1 := 7) (a_cons (ι := Value.ref) (k0 := 1) (p1 := 6) (fun _ => rfl) (e_aload_n (k0 := 0) d_M_roomFor_5 rfl rfl) (a_cons (ι := Value.int) (k0 := 1) (p1 := 7) (fun _ => rfl) (e_iconst d_M_roomFor_6 (by decide)) a_nil)) (k_virt ok_M_fail mf_M_fail ⟨tw_1632, tw_57⟩ rfl tw_1630 d_M_roomFor_7 (by decide) (by decide) (by decide))) s_skip) (s_seq (sl1 := [(0, 1), (1, 1), (2, 1)]) (p1 := 21) (s_if (pt := 17) (pf := 21) (c_if_neF (p1 := 14) (tg := 21) (e_gI (k0 := 13) (p1 := 11) cf_12 (e_aload_n (k0 := 0) d_M_roomFor_10 rfl rfl) (by decide) tw_1373 d_M_roomFor_11) d_M_roomFor_14 rfl) (s_call (p1 := 18) (a_cons (ι := Value.ref) (k0 := 1) (p1 := 18) (fun _ => rfl) (e_aload_n (k0 := 0) d_M_roomFor_17 rfl rfl) a_nil) (k_virt ok_M_goesOn mf_M_goesOn ⟨tw_1636, tw_58⟩ rfl tw_1634 d_M_roomFor_18 (by decide) (by decide) (by decide))) s_skip) (s_retV rfl d_M_roomFor_21))))
/-! BlinkerCrossModel.named()I -/
abbrev y_M_named : MethodName := ⟨"BlinkerCrossModel", "named", "()I"⟩
abbrev Y_M_named : Yt := (prog_14_method_24_code, 3, "BlinkerCrossModel", 3, (some .int), "named")
theorem d_M_named_0 : decode prog_14_method_24_code 0 = .ok (.aload_n 0, 1) := by decide +kernel
theorem d_M_named_1 : decode prog_14_method_24_code 1 = .ok (.getfield 215, 3) := by decide +kernel
theorem d_M_named_4 : decode prog_14_method_24_code 4 = .ok (.istore_n 1, 1) := by decide +kernel
theorem d_M_named_5 : decode prog_14_method_24_code 5 = .ok (.aload_n 0, 1) := by decide +kernel
theorem d_M_named_6 : decode prog_14_method_24_code 6 = .ok (.iconst 1, 1) := by decide +kernel
theorem d_M_named_7 : decode prog_14_method_24_code 7 = .ok (.invokevirtual 287, 3) := by decide +kernel
theorem d_M_named_10 : decode prog_14_method_24_code 10 = .ok (.iconst 0, 1) := by decide +kernel
theorem d_M_named_11 : decode prog_14_method_24_code 11 = .ok (.istore_n 2, 1) := by decide +kernel
theorem d_M_named_12 : decode prog_14_method_24_code 12 = .ok (.iload_n 2, 1) := by decide +kernel
theorem d_M_named_13 : decode prog_14_method_24_code 13 = .ok (.aload_n 0, 1) := by decide +kernel
theorem d_M_named_14 : decode prog_14_method_24_code 14 = .ok (.getfield 248, 3) := by decide +kernel
theorem d_M_named_17 : decode prog_14_method_24_code 17 = .ok (.if_icmp .ge 38, 3) := by decide +kernel
theorem d_M_named_20 : decode prog_14_method_24_code 20 = .ok (.aload_n 0, 1) := by decide +kernel
theorem d_M_named_21 : decode prog_14_method_24_code 21 = .ok (.getfield 212, 3) := by decide +kernel
theorem d_M_named_24 : decode prog_14_method_24_code 24 = .ok (.ifCond .ne 31, 3) := by decide +kernel
theorem d_M_named_27 : decode prog_14_method_24_code 27 = .ok (.aload_n 0, 1) := by decide +kernel
theorem d_M_named_28 : decode prog_14_method_24_code 28 = .ok (.getfield 40, 3) := by decide +kernel
theorem d_M_named_31 : decode prog_14_method_24_code 31 = .ok (.iload_n 2, 1) := by decide +kernel
theorem d_M_named_32 : decode prog_14_method_24_code 32 = .ok (.laload, 1) := by decide +kernel
theorem d_M_named_33 : decode prog_14_method_24_code 33 = .ok (.aload_n 0, 1) := by decide +kernel
theorem d_M_named_34 : decode prog_14_method_24_code 34 = .ok (.getfield 30, 3) := by decide +kernel
theorem d_M_named_37 : decode prog_14_method_24_code 37 = .ok (.iload_n 1, 1) := by decide +kernel
theorem d_M_named_38 : decode prog_14_method_24_code 38 = .ok (.laload, 1) := by decide +kernel
theorem d_M_named_39 : decode prog_14_method_24_code 39 = .ok (.lcmp, 1) := by decide +kernel
theorem d_M_named_40 : decode prog_14_method_24_code 40 = .ok (.ifCond .ne 9, 3) := by decide +kernel
theorem d_M_named_43 : decode prog_14_method_24_code 43 = .ok (.aload_n 0, 1) := by decide +kernel
theorem d_M_named_44 : decode prog_14_method_24_code 44 = .ok (.iconst 3, 1) := by decide +kernel
theorem d_M_named_45 : decode prog_14_method_24_code 45 = .ok (.iload_n 1, 1) := by decide +kernel
theorem d_M_named_46 : decode prog_14_method_24_code 46 = .ok (.invokevirtual 293, 3) := by decide +kernel
theorem d_M_named_49 : decode prog_14_method_24_code 49 = .ok (.iinc 2 1, 3) := by decide +kernel
theorem d_M_named_52 : decode prog_14_method_24_code 52 = .ok (.goto (-40), 3) := by decide +kernel
theorem d_M_named_55 : decode prog_14_method_24_code 55 = .ok (.iload_n 1, 1) := by decide +kernel
theorem d_M_named_56 : decode prog_14_method_24_code 56 = .ok (.ireturn, 1) := by decide +kernel
noncomputable def Lc_M_named_1 : Xp Bool := cAnd (o2 (fun x y => decide (x < y)) (vI 2) (gI 12 20 (vR 0))) (o1 (fun x => decide (x = 0)) (gI 12 13 (vR 0)))
noncomputable def Lb_M_named_1 : Sm := sIf (o2 (fun x y => decide (x = y)) (aL (gR 12 21 (vR 0)) (vI 2)) (aL (gR 12 8 (vR 0)) (vI 1))) (sCall (mV 12 D_M_wrong) [asV Value.ref (vR 0), asV Value.int (kI (ii 3)), asV Value.int (vI 1)]) (sSkip)
noncomputable def Lu_M_named_1 : Sm := sInc 2 (ii 1)
noncomputable def F_M_named : Sm := sSeq (sDecl (asV Value.int (gI 12 11 (vR 0)))) (sSeq (sCall (mV 12 D_M_must) [asV Value.ref (vR 0), asV Value.int (kI (ii 1))]) (sSeq (sBlk 2 (sSeq (sDecl (asV Value.int (kI (ii 0)))) (sWh (Lc_M_named_1) (Lb_M_named_1) Lu_M_named_1))) (sRet (asV Value.int (vI 1)))))
theorem mf_M_named : Mf y_M_named prog_14_method_24_code 3 (some .int) 0 := ⟨tw_1641, tw_134, by decide +kernel⟩
noncomputable def D_M_named : Dn := runS [1] F_M_named
theorem ok_M_named : MOK y_M_named prog_14_method_24_code 3 (some .int) 3 0 0 D_M_named := MOK.of (by decide) (by decide) (show SO Y_M_named [(0, 1)] [(0, 1), (1, 1)] 0 57 (([], 0), ([], 0)) F_M_named from
  (s_seq (sl1 := [(0, 1), (1, 1)]) (p1 := 5) (s_decl (p1 := 4) (e_gI (k0 := 11) (p1 := 1) cf_12 (e_aload_n (k0 := 0) d_M_named_0 rfl rfl) (by decide) tw_1371 d_M_named_1) (t_istore_n d_M_named_4 rfl (by decide)) rfl) (s_seq (sl1 := [(0, 1), (1, 1)]) (p1 := 10) (s_call (p1 := 7) (a_cons (ι := Value.ref) (k0 := 1) (p1 := 6) (fun _ => rfl) (e_aload_n (k0 := 0) d_M_named_5 rfl rfl) (a_cons (ι := Value.int) (k0 := 1) (p1 := 7) (fun _ => rfl) (e_iconst d_M_named_6 (by decide)) a_nil)) (k_virt ok_M_must mf_M_must ⟨tw_1644, tw_60⟩ rfl tw_1642 d_M_named_7 (by decide) (by decide) (by decide))) (s_seq (sl1 := [(0, 1), (1, 1)]) (p1 := 55) (s_blk (sl1 := [(0, 1), (1, 1), (2, 1)]) (s_seq (sl1 := [(0, 1), (1, 1), (2, 1)]) (p1 := 12) (s_decl (p1 := 11) (e_iconst d_M_named_10 (by decide)) (t_istore_n d_M_named_11 rfl (by decide)) rfl) (s_for (pt := 27) (pu := 49) (pf := 55) (pg := 0) (c_and (p1 := 20) (c_icmp_geF (p1 := 13) (p2 := 17) (tg := 55) (e_iload_n (k0 := 2) d_M_named_12 rfl rfl) (e_gI (k0 := 20) (p1 := 14) cf_12 (e_aload_n (k0 := 0) d_M_named_13 rfl rfl) (by decide) tw_1380 d_M_named_14) d_M_named_17 rfl) (c_if_neF (p1 := 24) (tg := 55) (e_gI (k0 := 13) (p1 := 21) cf_12 (e_aload_n (k0 := 0) d_M_named_20 rfl rfl) (by decide) tw_1373 d_M_named_21) d_M_named_24 rfl)) (s_if (pt := 43) (pf := 49) (c_lcmp_neF (p1 := 33) (p2 := 39) (tg := 49) (e_lald (p1 := 31) (p2 := 32) (e_gR (k0 := 21) (p1 := 28) cf_12 (e_aload_n (k0 := 0) d_M_named_27 rfl rfl) (by decide) tw_1381 d_M_named_28) (e_iload_n (k0 := 2) d_M_named_31 rfl rfl) d_M_named_32) (e_lald (p1 := 37) (p2 := 38) (e_gR (k0 := 8) (p1 := 34) cf_12 (e_aload_n (k0 := 0) d_M_named_33 rfl rfl) (by decide) tw_1368 d_M_named_34) (e_iload_n (k0 := 1) d_M_named_37 rfl rfl) d_M_named_38) d_M_named_39 d_M_named_40 rfl) (s_call (p1 := 46) (a_cons (ι := Value.ref) (k0 := 1) (p1 := 44) (fun _ => rfl) (e_aload_n (k0 := 0) d_M_named_43 rfl rfl) (a_cons (ι := Value.int) (k0 := 1) (p1 := 45) (fun _ => rfl) (e_iconst d_M_named_44 (by decide)) (a_cons (ι := Value.int) (k0 := 1) (p1 := 46) (fun _ => rfl) (e_iload_n (k0 := 1) d_M_named_45 rfl rfl) a_nil))) (k_virt ok_M_wrong mf_M_wrong ⟨tw_1648, tw_61⟩ rfl tw_1646 d_M_named_46 (by decide) (by decide) (by decide))) s_skip) (s_goto (p1 := 52) (s_inc (k0 := 2) d_M_named_49 rfl rfl (Nat.le_of_ble_eq_true rfl) rfl) d_M_named_52 rfl))) rfl) (s_ret (p1 := 56) (e_iload_n (k0 := 1) d_M_named_55 rfl rfl) rfl d_M_named_56)))))
/-! BlinkerCrossModel.bounded(II)I -/
abbrev y_M_bounded : MethodName := ⟨"BlinkerCrossModel", "bounded", "(II)I"⟩
abbrev Y_M_bounded : Yt := (prog_14_method_27_code, 4, "BlinkerCrossModel", 2, (some .int), "bounded")
theorem d_M_bounded_0 : decode prog_14_method_27_code 0 = .ok (.aload_n 0, 1) := by decide +kernel
theorem d_M_bounded_1 : decode prog_14_method_27_code 1 = .ok (.getfield 212, 3) := by decide +kernel
theorem d_M_bounded_4 : decode prog_14_method_27_code 4 = .ok (.ifCond .gt 11, 3) := by decide +kernel
theorem d_M_bounded_7 : decode prog_14_method_27_code 7 = .ok (.aload_n 0, 1) := by decide +kernel
theorem d_M_bounded_8 : decode prog_14_method_27_code 8 = .ok (.iconst 2, 1) := by decide +kernel
theorem d_M_bounded_9 : decode prog_14_method_27_code 9 = .ok (.invokevirtual 230, 3) := by decide +kernel
theorem d_M_bounded_12 : decode prog_14_method_27_code 12 = .ok (.ifCond .ne 10, 3) := by decide +kernel
theorem d_M_bounded_15 : decode prog_14_method_27_code 15 = .ok (.aload_n 0, 1) := by decide +kernel
theorem d_M_bounded_16 : decode prog_14_method_27_code 16 = .ok (.iconst 1, 1) := by decide +kernel
theorem d_M_bounded_17 : decode prog_14_method_27_code 17 = .ok (.invokevirtual 227, 3) := by decide +kernel
theorem d_M_bounded_20 : decode prog_14_method_27_code 20 = .ok (.iload_n 1, 1) := by decide +kernel
theorem d_M_bounded_21 : decode prog_14_method_27_code 21 = .ok (.ireturn, 1) := by decide +kernel
theorem d_M_bounded_22 : decode prog_14_method_27_code 22 = .ok (.aload_n 0, 1) := by decide +kernel
theorem d_M_bounded_23 : decode prog_14_method_27_code 23 = .ok (.getfield 27, 3) := by decide +kernel
theorem d_M_bounded_26 : decode prog_14_method_27_code 26 = .ok (.aload_n 0, 1) := by decide +kernel
theorem d_M_bounded_27 : decode prog_14_method_27_code 27 = .ok (.getfield 215, 3) := by decide +kernel
theorem d_M_bounded_30 : decode prog_14_method_27_code 30 = .ok (.iaload, 1) := by decide +kernel
theorem d_M_bounded_31 : decode prog_14_method_27_code 31 = .ok (.istore_n 3, 1) := by decide +kernel
theorem d_M_bounded_32 : decode prog_14_method_27_code 32 = .ok (.iload_n 3, 1) := by decide +kernel
theorem d_M_bounded_33 : decode prog_14_method_27_code 33 = .ok (.iload_n 1, 1) := by decide +kernel
theorem d_M_bounded_34 : decode prog_14_method_27_code 34 = .ok (.if_icmp .lt 8, 3) := by decide +kernel
theorem d_M_bounded_37 : decode prog_14_method_27_code 37 = .ok (.iload_n 3, 1) := by decide +kernel
theorem d_M_bounded_38 : decode prog_14_method_27_code 38 = .ok (.iload_n 2, 1) := by decide +kernel
theorem d_M_bounded_39 : decode prog_14_method_27_code 39 = .ok (.if_icmp .le 12, 3) := by decide +kernel
theorem d_M_bounded_42 : decode prog_14_method_27_code 42 = .ok (.aload_n 0, 1) := by decide +kernel
theorem d_M_bounded_43 : decode prog_14_method_27_code 43 = .ok (.iconst 5, 1) := by decide +kernel
theorem d_M_bounded_44 : decode prog_14_method_27_code 44 = .ok (.aload_n 0, 1) := by decide +kernel
theorem d_M_bounded_45 : decode prog_14_method_27_code 45 = .ok (.getfield 215, 3) := by decide +kernel
theorem d_M_bounded_48 : decode prog_14_method_27_code 48 = .ok (.invokevirtual 293, 3) := by decide +kernel
theorem d_M_bounded_51 : decode prog_14_method_27_code 51 = .ok (.aload_n 0, 1) := by decide +kernel
theorem d_M_bounded_52 : decode prog_14_method_27_code 52 = .ok (.invokevirtual 233, 3) := by decide +kernel
theorem d_M_bounded_55 : decode prog_14_method_27_code 55 = .ok (.iload_n 3, 1) := by decide +kernel
theorem d_M_bounded_56 : decode prog_14_method_27_code 56 = .ok (.ireturn, 1) := by decide +kernel
noncomputable def F_M_bounded : Sm := sSeq (sIf (cOr (o1 (fun x => decide (x > 0)) (gI 12 13 (vR 0))) (cNot (o1 (fun x => decide (x ≠ 0)) (cI (mV 12 D_M_is) [asV Value.ref (vR 0), asV Value.int (kI (ii 2))])))) (sSeq (sCall (mV 12 D_M_fail) [asV Value.ref (vR 0), asV Value.int (kI (ii 1))]) (sRet (asV Value.int (vI 1)))) (sSkip)) (sSeq (sDecl (asV Value.int (aI 0 (gR 12 7 (vR 0)) (gI 12 11 (vR 0))))) (sSeq (sIf (cOr (o2 (fun x y => decide (x < y)) (vI 3) (vI 1)) (o2 (fun x y => decide (x > y)) (vI 3) (vI 2))) (sCall (mV 12 D_M_wrong) [asV Value.ref (vR 0), asV Value.int (kI (ii 5)), asV Value.int (gI 12 11 (vR 0))]) (sSkip)) (sSeq (sCall (mV 12 D_M_goesOn) [asV Value.ref (vR 0)]) (sRet (asV Value.int (vI 3))))))
theorem mf_M_bounded : Mf y_M_bounded prog_14_method_27_code 4 (some .int) 2 := ⟨tw_1653, tw_134, by decide +kernel⟩
noncomputable def D_M_bounded : Dn := runS [1, 1, 1] F_M_bounded
theorem ok_M_bounded : MOK y_M_bounded prog_14_method_27_code 4 (some .int) 2 0 0 D_M_bounded := MOK.of (by decide) (by decide) (show SO Y_M_bounded [(0, 1), (1, 1), (2, 1)] [(0, 1), (1, 1), (2, 1), (3, 1)] 0 57 (([], 0), ([], 0)) F_M_bounded from
  (s_seq (sl1 := [(0, 1), (1, 1), (2, 1)]) (p1 := 22) (s_if (pt := 15) (pf := 22) (c_or (p1 := 7) (c_if_gtT (p1 := 4) (tg := 15) (e_gI (k0 := 13) (p1 := 1) cf_12 (e_aload_n (k0 := 0) d_M_bounded_0 rfl rfl) (by decide) tw_1373 d_M_bounded_1) d_M_bounded_4 rfl) (c_not (c_if_neT (p1 := 12) (tg := 22) (e_cI (p1 := 9) (a_cons (ι := Value.ref) (k0 := 1) (p1 := 8) (fun _ => rfl) (e_aload_n (k0 := 0) d_M_bounded_7 rfl rfl) (a_cons (ι := Value.int) (k0 := 1) (p1 := 9) (fun _ => rfl) (e_iconst d_M_bounded_8 (by decide)) a_nil)) (k_virt ok_M_is mf_M_is ⟨tw_1620, tw_54⟩ rfl tw_1618 d_M_bounded_9 (by decide) (by decide) (by decide))) d_M_bounded_12 rfl))) (s_seq (sl1 := [(0, 1), (1, 1), (2, 1)]) (p1 := 20) (s_call (p1 := 17) (a_cons (ι := Value.ref) (k0 := 1) (p1 := 16) (fun _ => rfl) (e_aload_n (k0 := 0) d_M_bounded_15 rfl rfl) (a_cons (ι := Value.int) (k0 := 1) (p1 := 17) (fun _ => rfl) (e_iconst d_M_bounded_16 (by decide)) a_nil)) (k_virt ok_M_fail mf_M_fail ⟨tw_1632, tw_57⟩ rfl tw_1630 d_M_bounded_17 (by decide) (by decide) (by decide))) (s_ret (p1 := 21) (e_iload_n (k0 := 1) d_M_bounded_20 rfl rfl) rfl d_M_bounded_21)) s_skip) (s_seq (sl1 := [(0, 1), (1, 1), (2, 1), (3, 1)]) (p1 := 32) (s_decl (p1 := 31) (e_iald (p1 := 26) (p2 := 30) (e_gR (k0 := 7) (p1 := 23) cf_12 (e_aload_n (k0 := 0) d_M_bounded_22 rfl rfl) (by decide) tw_1367 d_M_bounded_23) (e_gI (k0 := 11) (p1 := 27) cf_12 (e_aload_n (k0 := 0) d_M_bounded_26 rfl rfl) (by decide) tw_1371 d_M_bounded_27) d_M_bounded_30) (t_istore_n d_M_bounded_31 rfl (by decide)) rfl) (s_seq (sl1 := [(0, 1), (1, 1), (2, 1), (3, 1)]) (p1 := 51) (s_if (pt := 42) (pf := 51) (c_or (p1 := 37) (c_icmp_ltT (p1 := 33) (p2 := 34) (tg := 42) (e_iload_n (k0 := 3) d_M_bounded_32 rfl rfl) (e_iload_n (k0 := 1) d_M_bounded_33 rfl rfl) d_M_bounded_34 rfl) (c_icmp_leF (p1 := 38) (p2 := 39) (tg := 51) (e_iload_n (k0 := 3) d_M_bounded_37 rfl rfl) (e_iload_n (k0 := 2) d_M_bounded_38 rfl rfl) d_M_bounded_39 rfl)) (s_call (p1 := 48) (a_cons (ι := Value.ref) (k0 := 1) (p1 := 43) (fun _ => rfl) (e_aload_n (k0 := 0) d_M_bounded_42 rfl rfl) (a_cons (ι := Value.int) (k0 := 1) (p1 := 44) (fun _ => rfl) (e_iconst d_M_bounded_43 (by decide)) (a_cons (ι := Value.int) (k0 := 1) (p1 := 48) (fun _ => rfl) (e_gI (k0 := 11) (p1 := 45) cf_12 (e_aload_n (k0 := 0) d_M_bounded_44 rfl rfl) (by decide) tw_1371 d_M_bounded_45) a_nil))) (k_virt ok_M_wrong mf_M_wrong ⟨tw_1648, tw_61⟩ rfl tw_1646 d_M_bounded_48 (by decide) (by decide) (by decide))) s_skip) (s_seq (sl1 := [(0, 1), (1, 1), (2, 1), (3, 1)]) (p1 := 55) (s_call (p1 := 52) (a_cons (ι := Value.ref) (k0 := 1) (p1 := 52) (fun _ => rfl) (e_aload_n (k0 := 0) d_M_bounded_51 rfl rfl) a_nil) (k_virt ok_M_goesOn mf_M_goesOn ⟨tw_1636, tw_58⟩ rfl tw_1634 d_M_bounded_52 (by decide) (by decide) (by decide))) (s_ret (p1 := 56) (e_iload_n (k0 := 3) d_M_bounded_55 rfl rfl) rfl d_M_bounded_56))))))
/-! BlinkerCrossModel.endsName(II)V -/
abbrev y_M_endsName : MethodName := ⟨"BlinkerCrossModel", "endsName", "(II)V"⟩
abbrev Y_M_endsName : Yt := (prog_14_method_25_code, 3, "BlinkerCrossModel", 3, none, "endsName")
theorem d_M_endsName_0 : decode prog_14_method_25_code 0 = .ok (.aload_n 0, 1) := by decide +kernel
theorem d_M_endsName_1 : decode prog_14_method_25_code 1 = .ok (.iconst 4, 1) := by decide +kernel
theorem d_M_endsName_2 : decode prog_14_method_25_code 2 = .ok (.invokevirtual 287, 3) := by decide +kernel
theorem d_M_endsName_5 : decode prog_14_method_25_code 5 = .ok (.aload_n 0, 1) := by decide +kernel
theorem d_M_endsName_6 : decode prog_14_method_25_code 6 = .ok (.getfield 212, 3) := by decide +kernel
theorem d_M_endsName_9 : decode prog_14_method_25_code 9 = .ok (.ifCond .le 4, 3) := by decide +kernel
theorem d_M_endsName_12 : decode prog_14_method_25_code 12 = .ok (.return_, 1) := by decide +kernel
theorem d_M_endsName_13 : decode prog_14_method_25_code 13 = .ok (.aload_n 0, 1) := by decide +kernel
theorem d_M_endsName_14 : decode prog_14_method_25_code 14 = .ok (.getfield 40, 3) := by decide +kernel
theorem d_M_endsName_17 : decode prog_14_method_25_code 17 = .ok (.aload_n 0, 1) := by decide +kernel
theorem d_M_endsName_18 : decode prog_14_method_25_code 18 = .ok (.getfield 248, 3) := by decide +kernel
theorem d_M_endsName_21 : decode prog_14_method_25_code 21 = .ok (.aload_n 0, 1) := by decide +kernel
theorem d_M_endsName_22 : decode prog_14_method_25_code 22 = .ok (.getfield 30, 3) := by decide +kernel
theorem d_M_endsName_25 : decode prog_14_method_25_code 25 = .ok (.iload_n 1, 1) := by decide +kernel
theorem d_M_endsName_26 : decode prog_14_method_25_code 26 = .ok (.laload, 1) := by decide +kernel
theorem d_M_endsName_27 : decode prog_14_method_25_code 27 = .ok (.lastore, 1) := by decide +kernel
theorem d_M_endsName_28 : decode prog_14_method_25_code 28 = .ok (.aload_n 0, 1) := by decide +kernel
theorem d_M_endsName_29 : decode prog_14_method_25_code 29 = .ok (.getfield 43, 3) := by decide +kernel
theorem d_M_endsName_32 : decode prog_14_method_25_code 32 = .ok (.aload_n 0, 1) := by decide +kernel
theorem d_M_endsName_33 : decode prog_14_method_25_code 33 = .ok (.getfield 248, 3) := by decide +kernel
theorem d_M_endsName_36 : decode prog_14_method_25_code 36 = .ok (.iload_n 2, 1) := by decide +kernel
theorem d_M_endsName_37 : decode prog_14_method_25_code 37 = .ok (.iastore, 1) := by decide +kernel
theorem d_M_endsName_38 : decode prog_14_method_25_code 38 = .ok (.aload_n 0, 1) := by decide +kernel
theorem d_M_endsName_39 : decode prog_14_method_25_code 39 = .ok (.dup, 1) := by decide +kernel
theorem d_M_endsName_40 : decode prog_14_method_25_code 40 = .ok (.getfield 248, 3) := by decide +kernel
theorem d_M_endsName_43 : decode prog_14_method_25_code 43 = .ok (.iconst 1, 1) := by decide +kernel
theorem d_M_endsName_44 : decode prog_14_method_25_code 44 = .ok (.iadd, 1) := by decide +kernel
theorem d_M_endsName_45 : decode prog_14_method_25_code 45 = .ok (.putfield 248, 3) := by decide +kernel
theorem d_M_endsName_48 : decode prog_14_method_25_code 48 = .ok (.return_, 1) := by decide +kernel
noncomputable def F_M_endsName : Sm := sSeq (sCall (mV 12 D_M_must) [asV Value.ref (vR 0), asV Value.int (kI (ii 4))]) (sSeq (sIf (o1 (fun x => decide (x > 0)) (gI 12 13 (vR 0))) (sRetV) (sSkip)) (sSeq (sAstL (gR 12 21 (vR 0)) (gI 12 20 (vR 0)) (aL (gR 12 8 (vR 0)) (vI 1))) (sSeq (sAst 0 (gR 12 22 (vR 0)) (gI 12 20 (vR 0)) (vI 2)) (sSeq (sFop 12 20 (vR 0) (fun x y => x + y) (kI (ii 1))) (sRetV)))))
theorem mf_M_endsName : Mf y_M_endsName prog_14_method_25_code 3 none 2 := ⟨tw_1657, tw_134, by decide +kernel⟩
noncomputable def D_M_endsName : Dn := runS [1, 1, 1] F_M_endsName
theorem ok_M_endsName : MOK y_M_endsName prog_14_method_25_code 3 none 3 0 0 D_M_endsName := MOK.of (by decide) (by decide) (show SO Y_M_endsName [(0, 1), (1, 1), (2, 1)] [(0, 1), (1, 1), (2, 1)] 0 49 (([], 0), ([], 0)) F_M_endsName from
  (s_seq (sl1 := [(0, 1), (1, 1), (2, 1)]) (p1 := 5) (s_call (p1 := 2) (a_cons (ι := Value.ref) (k0 := 1) (p1 := 1) (fun _ => rfl) (e_aload_n (k0 := 0) d_M_endsName_0 rfl rfl) (a_cons (ι := Value.int) (k0 := 1) (p1 := 2) (fun _ => rfl) (e_iconst d_M_endsName_1 (by decide)) a_nil)) (k_virt ok_M_must mf_M_must ⟨tw_1644, tw_60⟩ rfl tw_1642 d_M_endsName_2 (by decide) (by decide) (by decide))) (s_seq (sl1 := [(0, 1), (1, 1), (2, 1)]) (p1 := 13) (s_if (pt := 12) (pf := 13) (c_if_leF (p1 := 9) (tg := 13) (e_gI (k0 := 13) (p1 := 6) cf_12 (e_aload_n (k0 := 0) d_M_endsName_5 rfl rfl) (by decide) tw_1373 d_M_endsName_6) d_M_endsName_9 rfl) (s_retV rfl d_M_endsName_12) s_skip) (s_seq (sl1 := [(0, 1), (1, 1), (2, 1)]) (p1 := 28) (s_astL (p1 := 17) (p2 := 21) (p3 := 27) (e_gR (k0 := 21) (p1 := 14) cf_12 (e_aload_n (k0 := 0) d_M_endsName_13 rfl rfl) (by decide) tw_1381 d_M_endsName_14) (e_gI (k0 := 20) (p1 := 18) cf_12 (e_aload_n (k0 := 0) d_M_endsName_17 rfl rfl) (by decide) tw_1380 d_M_endsName_18) (e_lald (p1 := 25) (p2 := 26) (e_gR (k0 := 8) (p1 := 22) cf_12 (e_aload_n (k0 := 0) d_M_endsName_21 rfl rfl) (by decide) tw_1368 d_M_endsName_22) (e_iload_n (k0 := 1) d_M_endsName_25 rfl rfl) d_M_endsName_26) d_M_endsName_27) (s_seq (sl1 := [(0, 1), (1, 1), (2, 1)]) (p1 := 38) (s_ast (p1 := 32) (p2 := 36) (p3 := 37) (e_gR (k0 := 22) (p1 := 29) cf_12 (e_aload_n (k0 := 0) d_M_endsName_28 rfl rfl) (by decide) tw_1382 d_M_endsName_29) (e_gI (k0 := 20) (p1 := 33) cf_12 (e_aload_n (k0 := 0) d_M_endsName_32 rfl rfl) (by decide) tw_1380 d_M_endsName_33) (e_iload_n (k0 := 2) d_M_endsName_36 rfl rfl) (as_i d_M_endsName_37)) (s_seq (sl1 := [(0, 1), (1, 1), (2, 1)]) (p1 := 48) (s_fop (k0 := 20) (p1 := 39) (p2 := 44) cf_12 (e_aload_n (k0 := 0) d_M_endsName_38 rfl rfl) d_M_endsName_39 d_M_endsName_40 (e_iconst d_M_endsName_43 (by decide)) (op_iadd d_M_endsName_44) (by decide) rfl tw_1380 tw_1380 rfl d_M_endsName_45) (s_retV rfl d_M_endsName_48)))))))
/-! BlinkerCrossModel.known(I)I -/
abbrev y_M_known : MethodName := ⟨"BlinkerCrossModel", "known", "(I)I"⟩
abbrev Y_M_known : Yt := (prog_14_method_26_code, 4, "BlinkerCrossModel", 3, (some .int), "known")
theorem d_M_known_0 : decode prog_14_method_26_code 0 = .ok (.aload_n 0, 1) := by decide +kernel
theorem d_M_known_1 : decode prog_14_method_26_code 1 = .ok (.getfield 215, 3) := by decide +kernel
theorem d_M_known_4 : decode prog_14_method_26_code 4 = .ok (.istore_n 2, 1) := by decide +kernel
theorem d_M_known_5 : decode prog_14_method_26_code 5 = .ok (.aload_n 0, 1) := by decide +kernel
theorem d_M_known_6 : decode prog_14_method_26_code 6 = .ok (.iconst 1, 1) := by decide +kernel
theorem d_M_known_7 : decode prog_14_method_26_code 7 = .ok (.invokevirtual 287, 3) := by decide +kernel
theorem d_M_known_10 : decode prog_14_method_26_code 10 = .ok (.aload_n 0, 1) := by decide +kernel
theorem d_M_known_11 : decode prog_14_method_26_code 11 = .ok (.getfield 212, 3) := by decide +kernel
theorem d_M_known_14 : decode prog_14_method_26_code 14 = .ok (.ifCond .le 5, 3) := by decide +kernel
theorem d_M_known_17 : decode prog_14_method_26_code 17 = .ok (.iconst (-1), 1) := by decide +kernel
theorem d_M_known_18 : decode prog_14_method_26_code 18 = .ok (.ireturn, 1) := by decide +kernel
theorem d_M_known_19 : decode prog_14_method_26_code 19 = .ok (.iconst 0, 1) := by decide +kernel
theorem d_M_known_20 : decode prog_14_method_26_code 20 = .ok (.istore_n 3, 1) := by decide +kernel
theorem d_M_known_21 : decode prog_14_method_26_code 21 = .ok (.iload_n 3, 1) := by decide +kernel
theorem d_M_known_22 : decode prog_14_method_26_code 22 = .ok (.aload_n 0, 1) := by decide +kernel
theorem d_M_known_23 : decode prog_14_method_26_code 23 = .ok (.getfield 248, 3) := by decide +kernel
theorem d_M_known_26 : decode prog_14_method_26_code 26 = .ok (.if_icmp .ge 57, 3) := by decide +kernel
theorem d_M_known_29 : decode prog_14_method_26_code 29 = .ok (.aload_n 0, 1) := by decide +kernel
theorem d_M_known_30 : decode prog_14_method_26_code 30 = .ok (.getfield 40, 3) := by decide +kernel
theorem d_M_known_33 : decode prog_14_method_26_code 33 = .ok (.iload_n 3, 1) := by decide +kernel
theorem d_M_known_34 : decode prog_14_method_26_code 34 = .ok (.laload, 1) := by decide +kernel
theorem d_M_known_35 : decode prog_14_method_26_code 35 = .ok (.aload_n 0, 1) := by decide +kernel
theorem d_M_known_36 : decode prog_14_method_26_code 36 = .ok (.getfield 30, 3) := by decide +kernel
theorem d_M_known_39 : decode prog_14_method_26_code 39 = .ok (.iload_n 2, 1) := by decide +kernel
theorem d_M_known_40 : decode prog_14_method_26_code 40 = .ok (.laload, 1) := by decide +kernel
theorem d_M_known_41 : decode prog_14_method_26_code 41 = .ok (.lcmp, 1) := by decide +kernel
theorem d_M_known_42 : decode prog_14_method_26_code 42 = .ok (.ifCond .ne 35, 3) := by decide +kernel
theorem d_M_known_45 : decode prog_14_method_26_code 45 = .ok (.aload_n 0, 1) := by decide +kernel
theorem d_M_known_46 : decode prog_14_method_26_code 46 = .ok (.getfield 43, 3) := by decide +kernel
theorem d_M_known_49 : decode prog_14_method_26_code 49 = .ok (.iload_n 3, 1) := by decide +kernel
theorem d_M_known_50 : decode prog_14_method_26_code 50 = .ok (.iaload, 1) := by decide +kernel
theorem d_M_known_51 : decode prog_14_method_26_code 51 = .ok (.iload_n 1, 1) := by decide +kernel
theorem d_M_known_52 : decode prog_14_method_26_code 52 = .ok (.if_icmp .lt 25, 3) := by decide +kernel
theorem d_M_known_55 : decode prog_14_method_26_code 55 = .ok (.aload_n 0, 1) := by decide +kernel
theorem d_M_known_56 : decode prog_14_method_26_code 56 = .ok (.getfield 43, 3) := by decide +kernel
theorem d_M_known_59 : decode prog_14_method_26_code 59 = .ok (.iload_n 3, 1) := by decide +kernel
theorem d_M_known_60 : decode prog_14_method_26_code 60 = .ok (.iaload, 1) := by decide +kernel
theorem d_M_known_61 : decode prog_14_method_26_code 61 = .ok (.iload_n 1, 1) := by decide +kernel
theorem d_M_known_62 : decode prog_14_method_26_code 62 = .ok (.bipush 10, 2) := by decide +kernel
theorem d_M_known_64 : decode prog_14_method_26_code 64 = .ok (.iadd, 1) := by decide +kernel
theorem d_M_known_65 : decode prog_14_method_26_code 65 = .ok (.if_icmp .ge 12, 3) := by decide +kernel
theorem d_M_known_68 : decode prog_14_method_26_code 68 = .ok (.aload_n 0, 1) := by decide +kernel
theorem d_M_known_69 : decode prog_14_method_26_code 69 = .ok (.getfield 43, 3) := by decide +kernel
theorem d_M_known_72 : decode prog_14_method_26_code 72 = .ok (.iload_n 3, 1) := by decide +kernel
theorem d_M_known_73 : decode prog_14_method_26_code 73 = .ok (.iaload, 1) := by decide +kernel
theorem d_M_known_74 : decode prog_14_method_26_code 74 = .ok (.iload_n 1, 1) := by decide +kernel
theorem d_M_known_75 : decode prog_14_method_26_code 75 = .ok (.isub, 1) := by decide +kernel
theorem d_M_known_76 : decode prog_14_method_26_code 76 = .ok (.ireturn, 1) := by decide +kernel
theorem d_M_known_77 : decode prog_14_method_26_code 77 = .ok (.iinc 3 1, 3) := by decide +kernel
theorem d_M_known_80 : decode prog_14_method_26_code 80 = .ok (.goto (-59), 3) := by decide +kernel
theorem d_M_known_83 : decode prog_14_method_26_code 83 = .ok (.aload_n 0, 1) := by decide +kernel
theorem d_M_known_84 : decode prog_14_method_26_code 84 = .ok (.iconst 4, 1) := by decide +kernel
theorem d_M_known_85 : decode prog_14_method_26_code 85 = .ok (.iload_n 2, 1) := by decide +kernel
theorem d_M_known_86 : decode prog_14_method_26_code 86 = .ok (.invokevirtual 293, 3) := by decide +kernel
theorem d_M_known_89 : decode prog_14_method_26_code 89 = .ok (.iconst (-1), 1) := by decide +kernel
theorem d_M_known_90 : decode prog_14_method_26_code 90 = .ok (.ireturn, 1) := by decide +kernel
noncomputable def Lc_M_known_1 : Xp Bool := o2 (fun x y => decide (x < y)) (vI 3) (gI 12 20 (vR 0))
noncomputable def Lb_M_known_1 : Sm := sIf (cAnd (cAnd (o2 (fun x y => decide (x = y)) (aL (gR 12 21 (vR 0)) (vI 3)) (aL (gR 12 8 (vR 0)) (vI 2))) (o2 (fun x y => decide (x ≥ y)) (aI 0 (gR 12 22 (vR 0)) (vI 3)) (vI 1))) (o2 (fun x y => decide (x < y)) (aI 0 (gR 12 22 (vR 0)) (vI 3)) (o2 (fun x y => x + y) (vI 1) (kI (ii 10))))) (sRet (asV Value.int (o2 (fun x y => x - y) (aI 0 (gR 12 22 (vR 0)) (vI 3)) (vI 1)))) (sSkip)
noncomputable def Lu_M_known_1 : Sm := sInc 3 (ii 1)
noncomputable def F_M_known : Sm := sSeq (sDecl (asV Value.int (gI 12 11 (vR 0)))) (sSeq (sCall (mV 12 D_M_must) [asV Value.ref (vR 0), asV Value.int (kI (ii 1))]) (sSeq (sIf (o1 (fun x => decide (x > 0)) (gI 12 13 (vR 0))) (sRet (asV Value.int (kI (ii (-1))))) (sSkip)) (sSeq (sBlk 3 (sSeq (sDecl (asV Value.int (kI (ii 0)))) (sWh (Lc_M_known_1) (Lb_M_known_1) Lu_M_known_1))) (sSeq (sCall (mV 12 D_M_wrong) [asV Value.ref (vR 0), asV Value.int (kI (ii 4)), asV Value.int (vI 2)]) (sRet (asV Value.int (kI (ii (-1)))))))))
theorem mf_M_known : Mf y_M_known prog_14_method_26_code 4 (some .int) 1 := ⟨tw_1661, tw_134, by decide +kernel⟩
noncomputable def D_M_known : Dn := runS [1, 1] F_M_known
theorem ok_M_known : MOK y_M_known prog_14_method_26_code 4 (some .int) 3 0 0 D_M_known := MOK.of (by decide) (by decide) (show SO Y_M_known [(0, 1), (1, 1)] [(0, 1), (1, 1), (2, 1)] 0 91 (([], 0), ([], 0)) F_M_known from
  (s_seq (sl1 := [(0, 1), (1, 1), (2, 1)]) (p1 := 5) (s_decl (p1 := 4) (e_gI (k0 := 11) (p1 := 1) cf_12 (e_aload_n (k0 := 0) d_M_known_0 rfl rfl) (by decide) tw_1371 d_M_known_1) (t_istore_n d_M_known_4 rfl (by decide)) rfl) (s_seq (sl1 := [(0, 1), (1, 1), (2, 1)]) (p1 := 10) (s_call (p1 := 7) (a_cons (ι := Value.ref) (k0 := 1) (p1 := 6) (fun _ => rfl) (e_aload_n (k0 := 0) d_M_known_5 rfl rfl) (a_cons (ι := Value.int) (k0 := 1) (p1 := 7) (fun _ => rfl) (e_iconst d_M_known_6 (by decide)) a_nil)) (k_virt ok_M_must mf_M_must ⟨tw_1644, tw_60⟩ rfl tw_1642 d_M_known_7 (by decide) (by decide) (by decide))) (s_seq (sl1 := [(0, 1), (1, 1), (2, 1)]) (p1 := 19) (s_if (pt := 17) (pf := 19) (c_if_leF (p1 := 14) (tg := 19) (e_gI (k0 := 13) (p1 := 11) cf_12 (e_aload_n (k0 := 0) d_M_known_10 rfl rfl) (by decide) tw_1373 d_M_known_11) d_M_known_14 rfl) (s_ret (p1 := 18) (e_iconst d_M_known_17 (by decide)) rfl d_M_known_18) s_skip) (s_seq (sl1 := [(0, 1), (1, 1), (2, 1)]) (p1 := 83) (s_blk (sl1 := [(0, 1), (1, 1), (2, 1), (3, 1)]) (s_seq (sl1 := [(0, 1), (1, 1), (2, 1), (3, 1)]) (p1 := 21) (s_decl (p1 := 20) (e_iconst d_M_known_19 (by decide)) (t_istore_n d_M_known_20 rfl (by decide)) rfl) (s_for (pt := 29) (pu := 77) (pf := 83) (pg := 0) (c_icmp_geF (p1 := 22) (p2 := 26) (tg := 83) (e_iload_n (k0 := 3) d_M_known_21 rfl rfl) (e_gI (k0 := 20) (p1 := 23) cf_12 (e_aload_n (k0 := 0) d_M_known_22 rfl rfl) (by decide) tw_1380 d_M_known_23) d_M_known_26 rfl) (s_if (pt := 68) (pf := 77) (c_and (p1 := 55) (c_and (p1 := 45) (c_lcmp_neF (p1 := 35) (p2 := 41) (tg := 77) (e_lald (p1 := 33) (p2 := 34) (e_gR (k0 := 21) (p1 := 30) cf_12 (e_aload_n (k0 := 0) d_M_known_29 rfl rfl) (by decide) tw_1381 d_M_known_30) (e_iload_n (k0 := 3) d_M_known_33 rfl rfl) d_M_known_34) (e_lald (p1 := 39) (p2 := 40) (e_gR (k0 := 8) (p1 := 36) cf_12 (e_aload_n (k0 := 0) d_M_known_35 rfl rfl) (by decide) tw_1368 d_M_known_36) (e_iload_n (k0 := 2) d_M_known_39 rfl rfl) d_M_known_40) d_M_known_41 d_M_known_42 rfl) (c_icmp_ltF (p1 := 51) (p2 := 52) (tg := 77) (e_iald (p1 := 49) (p2 := 50) (e_gR (k0 := 22) (p1 := 46) cf_12 (e_aload_n (k0 := 0) d_M_known_45 rfl rfl) (by decide) tw_1382 d_M_known_46) (e_iload_n (k0 := 3) d_M_known_49 rfl rfl) d_M_known_50) (e_iload_n (k0 := 1) d_M_known_51 rfl rfl) d_M_known_52 rfl)) (c_icmp_geF (p1 := 61) (p2 := 65) (tg := 77) (e_iald (p1 := 59) (p2 := 60) (e_gR (k0 := 22) (p1 := 56) cf_12 (e_aload_n (k0 := 0) d_M_known_55 rfl rfl) (by decide) tw_1382 d_M_known_56) (e_iload_n (k0 := 3) d_M_known_59 rfl rfl) d_M_known_60) (e_iadd (p1 := 62) (p2 := 64) (e_iload_n (k0 := 1) d_M_known_61 rfl rfl) (e_bipush d_M_known_62 (by decide)) d_M_known_64) d_M_known_65 rfl)) (s_ret (p1 := 76) (e_isub (p1 := 74) (p2 := 75) (e_iald (p1 := 72) (p2 := 73) (e_gR (k0 := 22) (p1 := 69) cf_12 (e_aload_n (k0 := 0) d_M_known_68 rfl rfl) (by decide) tw_1382 d_M_known_69) (e_iload_n (k0 := 3) d_M_known_72 rfl rfl) d_M_known_73) (e_iload_n (k0 := 1) d_M_known_74 rfl rfl) d_M_known_75) rfl d_M_known_76) s_skip) (s_goto (p1 := 80) (s_inc (k0 := 3) d_M_known_77 rfl rfl (Nat.le_of_ble_eq_true rfl) rfl) d_M_known_80 rfl))) rfl) (s_seq (sl1 := [(0, 1), (1, 1), (2, 1)]) (p1 := 89) (s_call (p1 := 86) (a_cons (ι := Value.ref) (k0 := 1) (p1 := 84) (fun _ => rfl) (e_aload_n (k0 := 0) d_M_known_83 rfl rfl) (a_cons (ι := Value.int) (k0 := 1) (p1 := 85) (fun _ => rfl) (e_iconst d_M_known_84 (by decide)) (a_cons (ι := Value.int) (k0 := 1) (p1 := 86) (fun _ => rfl) (e_iload_n (k0 := 2) d_M_known_85 rfl rfl) a_nil))) (k_virt ok_M_wrong mf_M_wrong ⟨tw_1648, tw_61⟩ rfl tw_1646 d_M_known_86 (by decide) (by decide) (by decide))) (s_ret (p1 := 90) (e_iconst d_M_known_89 (by decide)) rfl d_M_known_90)))))))
/-! BlinkerCrossModel.tellWants()V -/
abbrev y_M_tellWants : MethodName := ⟨"BlinkerCrossModel", "tellWants", "()V"⟩
abbrev Y_M_tellWants : Yt := (prog_14_method_28_code, 4, "BlinkerCrossModel", 4, none, "tellWants")
theorem d_M_tellWants_0 : decode prog_14_method_28_code 0 = .ok (.aload_n 0, 1) := by decide +kernel
theorem d_M_tellWants_1 : decode prog_14_method_28_code 1 = .ok (.bipush 10, 2) := by decide +kernel
theorem d_M_tellWants_3 : decode prog_14_method_28_code 3 = .ok (.invokevirtual 281, 3) := by decide +kernel
theorem d_M_tellWants_6 : decode prog_14_method_28_code 6 = .ok (.istore_n 1, 1) := by decide +kernel
theorem d_M_tellWants_7 : decode prog_14_method_28_code 7 = .ok (.aload_n 0, 1) := by decide +kernel
theorem d_M_tellWants_8 : decode prog_14_method_28_code 8 = .ok (.iconst 0, 1) := by decide +kernel
theorem d_M_tellWants_9 : decode prog_14_method_28_code 9 = .ok (.invokevirtual 281, 3) := by decide +kernel
theorem d_M_tellWants_12 : decode prog_14_method_28_code 12 = .ok (.istore_n 2, 1) := by decide +kernel
theorem d_M_tellWants_13 : decode prog_14_method_28_code 13 = .ok (.aload_n 0, 1) := by decide +kernel
theorem d_M_tellWants_14 : decode prog_14_method_28_code 14 = .ok (.iconst 0, 1) := by decide +kernel
theorem d_M_tellWants_15 : decode prog_14_method_28_code 15 = .ok (.bipush 99, 2) := by decide +kernel
theorem d_M_tellWants_17 : decode prog_14_method_28_code 17 = .ok (.invokevirtual 274, 3) := by decide +kernel
theorem d_M_tellWants_20 : decode prog_14_method_28_code 20 = .ok (.istore_n 3, 1) := by decide +kernel
theorem d_M_tellWants_21 : decode prog_14_method_28_code 21 = .ok (.aload_n 0, 1) := by decide +kernel
theorem d_M_tellWants_22 : decode prog_14_method_28_code 22 = .ok (.iconst 4, 1) := by decide +kernel
theorem d_M_tellWants_23 : decode prog_14_method_28_code 23 = .ok (.invokevirtual 287, 3) := by decide +kernel
theorem d_M_tellWants_26 : decode prog_14_method_28_code 26 = .ok (.aload_n 0, 1) := by decide +kernel
theorem d_M_tellWants_27 : decode prog_14_method_28_code 27 = .ok (.getfield 212, 3) := by decide +kernel
theorem d_M_tellWants_30 : decode prog_14_method_28_code 30 = .ok (.ifCond .le 4, 3) := by decide +kernel
theorem d_M_tellWants_33 : decode prog_14_method_28_code 33 = .ok (.return_, 1) := by decide +kernel
theorem d_M_tellWants_34 : decode prog_14_method_28_code 34 = .ok (.aload_n 0, 1) := by decide +kernel
theorem d_M_tellWants_35 : decode prog_14_method_28_code 35 = .ok (.getfield 61, 3) := by decide +kernel
theorem d_M_tellWants_38 : decode prog_14_method_28_code 38 = .ok (.aload_n 0, 1) := by decide +kernel
theorem d_M_tellWants_39 : decode prog_14_method_28_code 39 = .ok (.getfield 245, 3) := by decide +kernel
theorem d_M_tellWants_42 : decode prog_14_method_28_code 42 = .ok (.dup2, 1) := by decide +kernel
theorem d_M_tellWants_43 : decode prog_14_method_28_code 43 = .ok (.iaload, 1) := by decide +kernel
theorem d_M_tellWants_44 : decode prog_14_method_28_code 44 = .ok (.iconst 1, 1) := by decide +kernel
theorem d_M_tellWants_45 : decode prog_14_method_28_code 45 = .ok (.iadd, 1) := by decide +kernel
theorem d_M_tellWants_46 : decode prog_14_method_28_code 46 = .ok (.iastore, 1) := by decide +kernel
theorem d_M_tellWants_47 : decode prog_14_method_28_code 47 = .ok (.iload_n 1, 1) := by decide +kernel
theorem d_M_tellWants_48 : decode prog_14_method_28_code 48 = .ok (.ifCond .lt 27, 3) := by decide +kernel
theorem d_M_tellWants_51 : decode prog_14_method_28_code 51 = .ok (.iload_n 2, 1) := by decide +kernel
theorem d_M_tellWants_52 : decode prog_14_method_28_code 52 = .ok (.ifCond .lt 23, 3) := by decide +kernel
theorem d_M_tellWants_55 : decode prog_14_method_28_code 55 = .ok (.aload_n 0, 1) := by decide +kernel
theorem d_M_tellWants_56 : decode prog_14_method_28_code 56 = .ok (.getfield 64, 3) := by decide +kernel
theorem d_M_tellWants_59 : decode prog_14_method_28_code 59 = .ok (.bipush 30, 2) := by decide +kernel
theorem d_M_tellWants_61 : decode prog_14_method_28_code 61 = .ok (.aload_n 0, 1) := by decide +kernel
theorem d_M_tellWants_62 : decode prog_14_method_28_code 62 = .ok (.getfield 245, 3) := by decide +kernel
theorem d_M_tellWants_65 : decode prog_14_method_28_code 65 = .ok (.imul, 1) := by decide +kernel
theorem d_M_tellWants_66 : decode prog_14_method_28_code 66 = .ok (.bipush 6, 2) := by decide +kernel
theorem d_M_tellWants_68 : decode prog_14_method_28_code 68 = .ok (.iload_n 1, 1) := by decide +kernel
theorem d_M_tellWants_69 : decode prog_14_method_28_code 69 = .ok (.imul, 1) := by decide +kernel
theorem d_M_tellWants_70 : decode prog_14_method_28_code 70 = .ok (.iadd, 1) := by decide +kernel
theorem d_M_tellWants_71 : decode prog_14_method_28_code 71 = .ok (.iload_n 2, 1) := by decide +kernel
theorem d_M_tellWants_72 : decode prog_14_method_28_code 72 = .ok (.iadd, 1) := by decide +kernel
theorem d_M_tellWants_73 : decode prog_14_method_28_code 73 = .ok (.iload_n 3, 1) := by decide +kernel
theorem d_M_tellWants_74 : decode prog_14_method_28_code 74 = .ok (.iastore, 1) := by decide +kernel
theorem d_M_tellWants_75 : decode prog_14_method_28_code 75 = .ok (.return_, 1) := by decide +kernel
noncomputable def F_M_tellWants : Sm := sSeq (sDecl (asV Value.int (cI (mV 12 D_M_known) [asV Value.ref (vR 0), asV Value.int (kI (ii 10))]))) (sSeq (sDecl (asV Value.int (cI (mV 12 D_M_known) [asV Value.ref (vR 0), asV Value.int (kI (ii 0))]))) (sSeq (sDecl (asV Value.int (cI (mV 12 D_M_bounded) [asV Value.ref (vR 0), asV Value.int (kI (ii 0)), asV Value.int (kI (ii 99))]))) (sSeq (sCall (mV 12 D_M_must) [asV Value.ref (vR 0), asV Value.int (kI (ii 4))]) (sSeq (sIf (o1 (fun x => decide (x > 0)) (gI 12 13 (vR 0))) (sRetV) (sSkip)) (sSeq (sAop 0 (gR 12 28 (vR 0)) (gI 12 19 (vR 0)) (fun x y => x + y) (kI (ii 1))) (sSeq (sIf (cAnd (o1 (fun x => decide (x ≥ 0)) (vI 1)) (o1 (fun x => decide (x ≥ 0)) (vI 2))) (sAst 0 (gR 12 29 (vR 0)) (o2 (fun x y => x + y) (o2 (fun x y => x + y) (o2 (fun x y => x * y) (kI (ii 30)) (gI 12 19 (vR 0))) (o2 (fun x y => x * y) (kI (ii 6)) (vI 1))) (vI 2)) (vI 3)) (sSkip)) (sRetV)))))))
theorem mf_M_tellWants : Mf y_M_tellWants prog_14_method_28_code 4 none 0 := ⟨tw_1665, tw_134, by decide +kernel⟩
noncomputable def D_M_tellWants : Dn := runS [1] F_M_tellWants
theorem ok_M_tellWants : MOK y_M_tellWants prog_14_method_28_code 4 none 4 0 0 D_M_tellWants := MOK.of (by decide) (by decide) (show SO Y_M_tellWants [(0, 1)] [(0, 1), (1, 1), (2, 1), (3, 1)] 0 76 (([], 0), ([], 0)) F_M_tellWants from
  (s_seq (sl1 := [(0, 1), (1, 1)]) (p1 := 7) (s_decl (p1 := 6) (e_cI (p1 := 3) (a_cons (ι := Value.ref) (k0 := 1) (p1 := 1) (fun _ => rfl) (e_aload_n (k0 := 0) d_M_tellWants_0 rfl rfl) (a_cons (ι := Value.int) (k0 := 1) (p1 := 3) (fun _ => rfl) (e_bipush d_M_tellWants_1 (by decide)) a_nil)) (k_virt ok_M_known mf_M_known ⟨tw_1660, tw_64⟩ rfl tw_1658 d_M_tellWants_3 (by decide) (by decide) (by decide))) (t_istore_n d_M_tellWants_6 rfl (by decide)) rfl) (s_seq (sl1 := [(0, 1), (1, 1), (2, 1)]) (p1 := 13) (s_decl (p1 := 12) (e_cI (p1 := 9) (a_cons (ι := Value.ref) (k0 := 1) (p1 := 8) (fun _ => rfl) (e_aload_n (k0 := 0) d_M_tellWants_7 rfl rfl) (a_cons (ι := Value.int) (k0 := 1) (p1 := 9) (fun _ => rfl) (e_iconst d_M_tellWants_8 (by decide)) a_nil)) (k_virt ok_M_known mf_M_known ⟨tw_1660, tw_64⟩ rfl tw_1658 d_M_tellWants_9 (by decide) (by decide) (by decide))) (t_istore_n d_M_tellWants_12 rfl (by decide)) rfl) (s_seq (sl1 := [(0, 1), (1, 1), (2, 1), (3, 1)]) (p1 := 21) (s_decl (p1 := 20) (e_cI (p1 := 17) (a_cons (ι := Value.ref) (k0 := 1) (p1 := 14) (fun _ => rfl) (e_aload_n (k0 := 0) d_M_tellWants_13 rfl rfl) (a_cons (ι := Value.int) (k0 := 1) (p1 := 15) (fun _ => rfl) (e_iconst d_M_tellWants_14 (by decide)) (a_cons (ι := Value.int) (k0 := 1) (p1 := 17) (fun _ => rfl) (e_bipush d_M_tellWants_15 (by decide)) a_nil))) (k_virt ok_M_bounded mf_M_bounded ⟨tw_1652, tw_62⟩ rfl tw_1650 d_M_tellWants_17 (by decide) (by decide) (by decide))) (t_istore_n d_M_tellWants_20 rfl (by decide)) rfl) (s_seq (sl1 := [(0, 1), (1, 1), (2, 1), (3, 1)]) (p1 := 26) (s_call (p1 := 23) (a_cons (ι := Value.ref) (k0 := 1) (p1 := 22) (fun _ => rfl) (e_aload_n (k0 := 0) d_M_tellWants_21 rfl rfl) (a_cons (ι := Value.int) (k0 := 1) (p1 := 23) (fun _ => rfl) (e_iconst d_M_tellWants_22 (by decide)) a_nil)) (k_virt ok_M_must mf_M_must ⟨tw_1644, tw_60⟩ rfl tw_1642 d_M_tellWants_23 (by decide) (by decide) (by decide))) (s_seq (sl1 := [(0, 1), (1, 1), (2, 1), (3, 1)]) (p1 := 34) (s_if (pt := 33) (pf := 34) (c_if_leF (p1 := 30) (tg := 34) (e_gI (k0 := 13) (p1 := 27) cf_12 (e_aload_n (k0 := 0) d_M_tellWants_26 rfl rfl) (by decide) tw_1373 d_M_tellWants_27) d_M_tellWants_30 rfl) (s_retV rfl d_M_tellWants_33) s_skip) (s_seq (sl1 := [(0, 1), (1, 1), (2, 1), (3, 1)]) (p1 := 47) (s_aop (p1 := 38) (p2 := 42) (p3 := 45) (e_gR (k0 := 28) (p1 := 35) cf_12 (e_aload_n (k0 := 0) d_M_tellWants_34 rfl rfl) (by decide) tw_1388 d_M_tellWants_35) (e_gI (k0 := 19) (p1 := 39) cf_12 (e_aload_n (k0 := 0) d_M_tellWants_38 rfl rfl) (by decide) tw_1379 d_M_tellWants_39) d_M_tellWants_42 (ad_i d_M_tellWants_43) (e_iconst d_M_tellWants_44 (by decide)) (op_iadd d_M_tellWants_45) (as_i d_M_tellWants_46)) (s_seq (sl1 := [(0, 1), (1, 1), (2, 1), (3, 1)]) (p1 := 75) (s_if (pt := 55) (pf := 75) (c_and (p1 := 51) (c_if_ltF (p1 := 48) (tg := 75) (e_iload_n (k0 := 1) d_M_tellWants_47 rfl rfl) d_M_tellWants_48 rfl) (c_if_ltF (p1 := 52) (tg := 75) (e_iload_n (k0 := 2) d_M_tellWants_51 rfl rfl) d_M_tellWants_52 rfl)) (s_ast (p1 := 59) (p2 := 73) (p3 := 74) (e_gR (k0 := 29) (p1 := 56) cf_12 (e_aload_n (k0 := 0) d_M_tellWants_55 rfl rfl) (by decide) tw_1389 d_M_tellWants_56) (e_iadd (p1 := 71) (p2 := 72) (e_iadd (p1 := 66) (p2 := 70) (e_imul (p1 := 61) (p2 := 65) (e_bipush d_M_tellWants_59 (by decide)) (e_gI (k0 := 19) (p1 := 62) cf_12 (e_aload_n (k0 := 0) d_M_tellWants_61 rfl rfl) (by decide) tw_1379 d_M_tellWants_62) d_M_tellWants_65) (e_imul (p1 := 68) (p2 := 69) (e_bipush d_M_tellWants_66 (by decide)) (e_iload_n (k0 := 1) d_M_tellWants_68 rfl rfl) d_M_tellWants_69) d_M_tellWants_70) (e_iload_n (k0 := 2) d_M_tellWants_71 rfl rfl) d_M_tellWants_72) (e_iload_n (k0 := 3) d_M_tellWants_73 rfl rfl) (as_i d_M_tellWants_74)) s_skip) (s_retV rfl d_M_tellWants_75)))))))))
/-! BlinkerCrossModel.emit(II)V -/
abbrev y_M_emit : MethodName := ⟨"BlinkerCrossModel", "emit", "(II)V"⟩
abbrev Y_M_emit : Yt := (prog_14_method_31_code, 3, "BlinkerCrossModel", 0, none, "emit")
theorem d_M_emit_0 : decode prog_14_method_31_code 0 = .ok (.aload_n 0, 1) := by decide +kernel
theorem d_M_emit_1 : decode prog_14_method_31_code 1 = .ok (.getfield 92, 3) := by decide +kernel
theorem d_M_emit_4 : decode prog_14_method_31_code 4 = .ok (.aload_n 0, 1) := by decide +kernel
theorem d_M_emit_5 : decode prog_14_method_31_code 5 = .ok (.getfield 254, 3) := by decide +kernel
theorem d_M_emit_8 : decode prog_14_method_31_code 8 = .ok (.iload_n 1, 1) := by decide +kernel
theorem d_M_emit_9 : decode prog_14_method_31_code 9 = .ok (.iastore, 1) := by decide +kernel
theorem d_M_emit_10 : decode prog_14_method_31_code 10 = .ok (.aload_n 0, 1) := by decide +kernel
theorem d_M_emit_11 : decode prog_14_method_31_code 11 = .ok (.getfield 95, 3) := by decide +kernel
theorem d_M_emit_14 : decode prog_14_method_31_code 14 = .ok (.aload_n 0, 1) := by decide +kernel
theorem d_M_emit_15 : decode prog_14_method_31_code 15 = .ok (.getfield 254, 3) := by decide +kernel
theorem d_M_emit_18 : decode prog_14_method_31_code 18 = .ok (.iload_n 2, 1) := by decide +kernel
theorem d_M_emit_19 : decode prog_14_method_31_code 19 = .ok (.iastore, 1) := by decide +kernel
theorem d_M_emit_20 : decode prog_14_method_31_code 20 = .ok (.aload_n 0, 1) := by decide +kernel
theorem d_M_emit_21 : decode prog_14_method_31_code 21 = .ok (.dup, 1) := by decide +kernel
theorem d_M_emit_22 : decode prog_14_method_31_code 22 = .ok (.getfield 254, 3) := by decide +kernel
theorem d_M_emit_25 : decode prog_14_method_31_code 25 = .ok (.iconst 1, 1) := by decide +kernel
theorem d_M_emit_26 : decode prog_14_method_31_code 26 = .ok (.iadd, 1) := by decide +kernel
theorem d_M_emit_27 : decode prog_14_method_31_code 27 = .ok (.putfield 254, 3) := by decide +kernel
theorem d_M_emit_30 : decode prog_14_method_31_code 30 = .ok (.return_, 1) := by decide +kernel
noncomputable def F_M_emit : Sm := sSeq (sAst 0 (gR 12 40 (vR 0)) (gI 12 39 (vR 0)) (vI 1)) (sSeq (sAst 0 (gR 12 41 (vR 0)) (gI 12 39 (vR 0)) (vI 2)) (sSeq (sFop 12 39 (vR 0) (fun x y => x + y) (kI (ii 1))) (sRetV)))
theorem mf_M_emit : Mf y_M_emit prog_14_method_31_code 3 none 2 := ⟨tw_1681, tw_134, by decide +kernel⟩
noncomputable def D_M_emit : Dn := runS [1, 1, 1] F_M_emit
theorem ok_M_emit : MOK y_M_emit prog_14_method_31_code 3 none 0 0 0 D_M_emit := MOK.of (by decide) (by decide) (show SO Y_M_emit [(0, 1), (1, 1), (2, 1)] [(0, 1), (1, 1), (2, 1)] 0 31 (([], 0), ([], 0)) F_M_emit from
  (s_seq (sl1 := [(0, 1), (1, 1), (2, 1)]) (p1 := 10) (s_ast (p1 := 4) (p2 := 8) (p3 := 9) (e_gR (k0 := 40) (p1 := 1) cf_12 (e_aload_n (k0 := 0) d_M_emit_0 rfl rfl) (by decide) tw_1400 d_M_emit_1) (e_gI (k0 := 39) (p1 := 5) cf_12 (e_aload_n (k0 := 0) d_M_emit_4 rfl rfl) (by decide) tw_1399 d_M_emit_5) (e_iload_n (k0 := 1) d_M_emit_8 rfl rfl) (as_i d_M_emit_9)) (s_seq (sl1 := [(0, 1), (1, 1), (2, 1)]) (p1 := 20) (s_ast (p1 := 14) (p2 := 18) (p3 := 19) (e_gR (k0 := 41) (p1 := 11) cf_12 (e_aload_n (k0 := 0) d_M_emit_10 rfl rfl) (by decide) tw_1401 d_M_emit_11) (e_gI (k0 := 39) (p1 := 15) cf_12 (e_aload_n (k0 := 0) d_M_emit_14 rfl rfl) (by decide) tw_1399 d_M_emit_15) (e_iload_n (k0 := 2) d_M_emit_18 rfl rfl) (as_i d_M_emit_19)) (s_seq (sl1 := [(0, 1), (1, 1), (2, 1)]) (p1 := 30) (s_fop (k0 := 39) (p1 := 21) (p2 := 26) cf_12 (e_aload_n (k0 := 0) d_M_emit_20 rfl rfl) d_M_emit_21 d_M_emit_22 (e_iconst d_M_emit_25 (by decide)) (op_iadd d_M_emit_26) (by decide) rfl tw_1399 tw_1399 rfl d_M_emit_27) (s_retV rfl d_M_emit_30)))))
/-! BlinkerCrossModel.unit()V -/
abbrev y_M_unit : MethodName := ⟨"BlinkerCrossModel", "unit", "()V"⟩
abbrev Y_M_unit : Yt := (prog_14_method_34_code, 1, "BlinkerCrossModel", 2, none, "unit")
theorem d_M_unit_0 : decode prog_14_method_34_code 0 = .ok (.aload_n 0, 1) := by decide +kernel
theorem d_M_unit_1 : decode prog_14_method_34_code 1 = .ok (.iconst 2, 1) := by decide +kernel
theorem d_M_unit_2 : decode prog_14_method_34_code 2 = .ok (.invokevirtual 230, 3) := by decide +kernel
theorem d_M_unit_5 : decode prog_14_method_34_code 5 = .ok (.ifCond .eq 24, 3) := by decide +kernel
theorem d_M_unit_8 : decode prog_14_method_34_code 8 = .ok (.aload_n 0, 1) := by decide +kernel
theorem d_M_unit_9 : decode prog_14_method_34_code 9 = .ok (.iconst 0, 1) := by decide +kernel
theorem d_M_unit_10 : decode prog_14_method_34_code 10 = .ok (.aload_n 0, 1) := by decide +kernel
theorem d_M_unit_11 : decode prog_14_method_34_code 11 = .ok (.getfield 27, 3) := by decide +kernel
theorem d_M_unit_14 : decode prog_14_method_34_code 14 = .ok (.aload_n 0, 1) := by decide +kernel
theorem d_M_unit_15 : decode prog_14_method_34_code 15 = .ok (.getfield 215, 3) := by decide +kernel
theorem d_M_unit_18 : decode prog_14_method_34_code 18 = .ok (.iaload, 1) := by decide +kernel
theorem d_M_unit_19 : decode prog_14_method_34_code 19 = .ok (.invokevirtual 305, 3) := by decide +kernel
theorem d_M_unit_22 : decode prog_14_method_34_code 22 = .ok (.aload_n 0, 1) := by decide +kernel
theorem d_M_unit_23 : decode prog_14_method_34_code 23 = .ok (.invokevirtual 233, 3) := by decide +kernel
theorem d_M_unit_26 : decode prog_14_method_34_code 26 = .ok (.goto 67, 3) := by decide +kernel
theorem d_M_unit_29 : decode prog_14_method_34_code 29 = .ok (.aload_n 0, 1) := by decide +kernel
theorem d_M_unit_30 : decode prog_14_method_34_code 30 = .ok (.getfield 212, 3) := by decide +kernel
theorem d_M_unit_33 : decode prog_14_method_34_code 33 = .ok (.ifCond .ne 55, 3) := by decide +kernel
theorem d_M_unit_36 : decode prog_14_method_34_code 36 = .ok (.aload_n 0, 1) := by decide +kernel
theorem d_M_unit_37 : decode prog_14_method_34_code 37 = .ok (.getfield 20, 3) := by decide +kernel
theorem d_M_unit_40 : decode prog_14_method_34_code 40 = .ok (.aload_n 0, 1) := by decide +kernel
theorem d_M_unit_41 : decode prog_14_method_34_code 41 = .ok (.getfield 215, 3) := by decide +kernel
theorem d_M_unit_44 : decode prog_14_method_34_code 44 = .ok (.iaload, 1) := by decide +kernel
theorem d_M_unit_45 : decode prog_14_method_34_code 45 = .ok (.bipush 31, 2) := by decide +kernel
theorem d_M_unit_47 : decode prog_14_method_34_code 47 = .ok (.if_icmp .lt 41, 3) := by decide +kernel
theorem d_M_unit_50 : decode prog_14_method_34_code 50 = .ok (.aload_n 0, 1) := by decide +kernel
theorem d_M_unit_51 : decode prog_14_method_34_code 51 = .ok (.getfield 20, 3) := by decide +kernel
theorem d_M_unit_54 : decode prog_14_method_34_code 54 = .ok (.aload_n 0, 1) := by decide +kernel
theorem d_M_unit_55 : decode prog_14_method_34_code 55 = .ok (.getfield 215, 3) := by decide +kernel
theorem d_M_unit_58 : decode prog_14_method_34_code 58 = .ok (.iaload, 1) := by decide +kernel
theorem d_M_unit_59 : decode prog_14_method_34_code 59 = .ok (.bipush 39, 2) := by decide +kernel
theorem d_M_unit_61 : decode prog_14_method_34_code 61 = .ok (.if_icmp .gt 27, 3) := by decide +kernel
theorem d_M_unit_64 : decode prog_14_method_34_code 64 = .ok (.aload_n 0, 1) := by decide +kernel
theorem d_M_unit_65 : decode prog_14_method_34_code 65 = .ok (.iconst 1, 1) := by decide +kernel
theorem d_M_unit_66 : decode prog_14_method_34_code 66 = .ok (.aload_n 0, 1) := by decide +kernel
theorem d_M_unit_67 : decode prog_14_method_34_code 67 = .ok (.getfield 20, 3) := by decide +kernel
theorem d_M_unit_70 : decode prog_14_method_34_code 70 = .ok (.aload_n 0, 1) := by decide +kernel
theorem d_M_unit_71 : decode prog_14_method_34_code 71 = .ok (.getfield 215, 3) := by decide +kernel
theorem d_M_unit_74 : decode prog_14_method_34_code 74 = .ok (.iaload, 1) := by decide +kernel
theorem d_M_unit_75 : decode prog_14_method_34_code 75 = .ok (.bipush 31, 2) := by decide +kernel
theorem d_M_unit_77 : decode prog_14_method_34_code 77 = .ok (.isub, 1) := by decide +kernel
theorem d_M_unit_78 : decode prog_14_method_34_code 78 = .ok (.invokevirtual 305, 3) := by decide +kernel
theorem d_M_unit_81 : decode prog_14_method_34_code 81 = .ok (.aload_n 0, 1) := by decide +kernel
theorem d_M_unit_82 : decode prog_14_method_34_code 82 = .ok (.invokevirtual 233, 3) := by decide +kernel
theorem d_M_unit_85 : decode prog_14_method_34_code 85 = .ok (.goto 8, 3) := by decide +kernel
theorem d_M_unit_88 : decode prog_14_method_34_code 88 = .ok (.aload_n 0, 1) := by decide +kernel
theorem d_M_unit_89 : decode prog_14_method_34_code 89 = .ok (.iconst 1, 1) := by decide +kernel
theorem d_M_unit_90 : decode prog_14_method_34_code 90 = .ok (.invokevirtual 227, 3) := by decide +kernel
theorem d_M_unit_93 : decode prog_14_method_34_code 93 = .ok (.return_, 1) := by decide +kernel
noncomputable def F_M_unit : Sm := sSeq (sIf (o1 (fun x => decide (x ≠ 0)) (cI (mV 12 D_M_is) [asV Value.ref (vR 0), asV Value.int (kI (ii 2))])) (sSeq (sCall (mV 12 D_M_emit) [asV Value.ref (vR 0), asV Value.int (kI (ii 0)), asV Value.int (aI 0 (gR 12 7 (vR 0)) (gI 12 11 (vR 0)))]) (sCall (mV 12 D_M_goesOn) [asV Value.ref (vR 0)])) (sIf (cAnd (cAnd (o1 (fun x => decide (x = 0)) (gI 12 13 (vR 0))) (o2 (fun x y => decide (x ≥ y)) (aI 0 (gR 12 5 (vR 0)) (gI 12 11 (vR 0))) (kI (ii 31)))) (o2 (fun x y => decide (x ≤ y)) (aI 0 (gR 12 5 (vR 0)) (gI 12 11 (vR 0))) (kI (ii 39)))) (sSeq (sCall (mV 12 D_M_emit) [asV Value.ref (vR 0), asV Value.int (kI (ii 1)), asV Value.int (o2 (fun x y => x - y) (aI 0 (gR 12 5 (vR 0)) (gI 12 11 (vR 0))) (kI (ii 31)))]) (sCall (mV 12 D_M_goesOn) [asV Value.ref (vR 0)])) (sCall (mV 12 D_M_fail) [asV Value.ref (vR 0), asV Value.int (kI (ii 1))]))) (sRetV)
theorem mf_M_unit : Mf y_M_unit prog_14_method_34_code 1 none 0 := ⟨tw_1677, tw_134, by decide +kernel⟩
noncomputable def D_M_unit : Dn := runS [1] F_M_unit
theorem ok_M_unit : MOK y_M_unit prog_14_method_34_code 1 none 2 0 0 D_M_unit := MOK.of (by decide) (by decide) (show SO Y_M_unit [(0, 1)] [(0, 1)] 0 94 (([], 0), ([], 0)) F_M_unit from
  (s_seq (sl1 := [(0, 1)]) (p1 := 93) (s_if (pt := 8) (pf := 29) (p1 := 93) (c_if_eqF (p1 := 5) (tg := 29) (e_cI (p1 := 2) (a_cons (ι := Value.ref) (k0 := 1) (p1 := 1) (fun _ => rfl) (e_aload_n (k0 := 0) d_M_unit_0 rfl rfl) (a_cons (ι := Value.int) (k0 := 1) (p1 := 2) (fun _ => rfl) (e_iconst d_M_unit_1 (by decide)) a_nil)) (k_virt ok_M_is mf_M_is ⟨tw_1620, tw_54⟩ rfl tw_1618 d_M_unit_2 (by decide) (by decide) (by decide))) d_M_unit_5 rfl) (s_seq (sl1 := [(0, 1)]) (p1 := 22) (s_call (p1 := 19) (a_cons (ι := Value.ref) (k0 := 1) (p1 := 9) (fun _ => rfl) (e_aload_n (k0 := 0) d_M_unit_8 rfl rfl) (a_cons (ι := Value.int) (k0 := 1) (p1 := 10) (fun _ => rfl) (e_iconst d_M_unit_9 (by decide)) (a_cons (ι := Value.int) (k0 := 1) (p1 := 19) (fun _ => rfl) (e_iald (p1 := 14) (p2 := 18) (e_gR (k0 := 7) (p1 := 11) cf_12 (e_aload_n (k0 := 0) d_M_unit_10 rfl rfl) (by decide) tw_1367 d_M_unit_11) (e_gI (k0 := 11) (p1 := 15) cf_12 (e_aload_n (k0 := 0) d_M_unit_14 rfl rfl) (by decide) tw_1371 d_M_unit_15) d_M_unit_18) a_nil))) (k_virt ok_M_emit mf_M_emit ⟨tw_1680, tw_69⟩ rfl tw_1678 d_M_unit_19 (by decide) (by decide) (by decide))) (s_goto (p1 := 26) (s_call (p1 := 23) (a_cons (ι := Value.ref) (k0 := 1) (p1 := 23) (fun _ => rfl) (e_aload_n (k0 := 0) d_M_unit_22 rfl rfl) a_nil) (k_virt ok_M_goesOn mf_M_goesOn ⟨tw_1636, tw_58⟩ rfl tw_1634 d_M_unit_23 (by decide) (by decide) (by decide))) d_M_unit_26 rfl)) (s_if (pt := 64) (pf := 88) (p1 := 93) (c_and (p1 := 50) (c_and (p1 := 36) (c_if_neF (p1 := 33) (tg := 88) (e_gI (k0 := 13) (p1 := 30) cf_12 (e_aload_n (k0 := 0) d_M_unit_29 rfl rfl) (by decide) tw_1373 d_M_unit_30) d_M_unit_33 rfl) (c_icmp_ltF (p1 := 45) (p2 := 47) (tg := 88) (e_iald (p1 := 40) (p2 := 44) (e_gR (k0 := 5) (p1 := 37) cf_12 (e_aload_n (k0 := 0) d_M_unit_36 rfl rfl) (by decide) tw_1365 d_M_unit_37) (e_gI (k0 := 11) (p1 := 41) cf_12 (e_aload_n (k0 := 0) d_M_unit_40 rfl rfl) (by decide) tw_1371 d_M_unit_41) d_M_unit_44) (e_bipush d_M_unit_45 (by decide)) d_M_unit_47 rfl)) (c_icmp_gtF (p1 := 59) (p2 := 61) (tg := 88) (e_iald (p1 := 54) (p2 := 58) (e_gR (k0 := 5) (p1 := 51) cf_12 (e_aload_n (k0 := 0) d_M_unit_50 rfl rfl) (by decide) tw_1365 d_M_unit_51) (e_gI (k0 := 11) (p1 := 55) cf_12 (e_aload_n (k0 := 0) d_M_unit_54 rfl rfl) (by decide) tw_1371 d_M_unit_55) d_M_unit_58) (e_bipush d_M_unit_59 (by decide)) d_M_unit_61 rfl)) (s_seq (sl1 := [(0, 1)]) (p1 := 81) (s_call (p1 := 78) (a_cons (ι := Value.ref) (k0 := 1) (p1 := 65) (fun _ => rfl) (e_aload_n (k0 := 0) d_M_unit_64 rfl rfl) (a_cons (ι := Value.int) (k0 := 1) (p1 := 66) (fun _ => rfl) (e_iconst d_M_unit_65 (by decide)) (a_cons (ι := Value.int) (k0 := 1) (p1 := 78) (fun _ => rfl) (e_isub (p1 := 75) (p2 := 77) (e_iald (p1 := 70) (p2 := 74) (e_gR (k0 := 5) (p1 := 67) cf_12 (e_aload_n (k0 := 0) d_M_unit_66 rfl rfl) (by decide) tw_1365 d_M_unit_67) (e_gI (k0 := 11) (p1 := 71) cf_12 (e_aload_n (k0 := 0) d_M_unit_70 rfl rfl) (by decide) tw_1371 d_M_unit_71) d_M_unit_74) (e_bipush d_M_unit_75 (by decide)) d_M_unit_77) a_nil))) (k_virt ok_M_emit mf_M_emit ⟨tw_1680, tw_69⟩ rfl tw_1678 d_M_unit_78 (by decide) (by decide) (by decide))) (s_goto (p1 := 85) (s_call (p1 := 82) (a_cons (ι := Value.ref) (k0 := 1) (p1 := 82) (fun _ => rfl) (e_aload_n (k0 := 0) d_M_unit_81 rfl rfl) a_nil) (k_virt ok_M_goesOn mf_M_goesOn ⟨tw_1636, tw_58⟩ rfl tw_1634 d_M_unit_82 (by decide) (by decide) (by decide))) d_M_unit_85 rfl)) (s_call (p1 := 90) (a_cons (ι := Value.ref) (k0 := 1) (p1 := 89) (fun _ => rfl) (e_aload_n (k0 := 0) d_M_unit_88 rfl rfl) (a_cons (ι := Value.int) (k0 := 1) (p1 := 90) (fun _ => rfl) (e_iconst d_M_unit_89 (by decide)) a_nil)) (k_virt ok_M_fail mf_M_fail ⟨tw_1632, tw_57⟩ rfl tw_1630 d_M_unit_90 (by decide) (by decide) (by decide))))) (s_retV rfl d_M_unit_93)))
/-! BlinkerCrossModel.comesOut(Z)V -/
abbrev y_M_comesOut : MethodName := ⟨"BlinkerCrossModel", "comesOut", "(Z)V"⟩
abbrev Y_M_comesOut : Yt := (prog_14_method_32_code, 3, "BlinkerCrossModel", 1, none, "comesOut")
theorem d_M_comesOut_0 : decode prog_14_method_32_code 0 = .ok (.aload_n 0, 1) := by decide +kernel
theorem d_M_comesOut_1 : decode prog_14_method_32_code 1 = .ok (.getfield 302, 3) := by decide +kernel
theorem d_M_comesOut_4 : decode prog_14_method_32_code 4 = .ok (.ifCond .le 87, 3) := by decide +kernel
theorem d_M_comesOut_7 : decode prog_14_method_32_code 7 = .ok (.aload_n 0, 1) := by decide +kernel
theorem d_M_comesOut_8 : decode prog_14_method_32_code 8 = .ok (.getfield 98, 3) := by decide +kernel
theorem d_M_comesOut_11 : decode prog_14_method_32_code 11 = .ok (.aload_n 0, 1) := by decide +kernel
theorem d_M_comesOut_12 : decode prog_14_method_32_code 12 = .ok (.getfield 302, 3) := by decide +kernel
theorem d_M_comesOut_15 : decode prog_14_method_32_code 15 = .ok (.iconst 1, 1) := by decide +kernel
theorem d_M_comesOut_16 : decode prog_14_method_32_code 16 = .ok (.isub, 1) := by decide +kernel
theorem d_M_comesOut_17 : decode prog_14_method_32_code 17 = .ok (.iaload, 1) := by decide +kernel
theorem d_M_comesOut_18 : decode prog_14_method_32_code 18 = .ok (.istore_n 2, 1) := by decide +kernel
theorem d_M_comesOut_19 : decode prog_14_method_32_code 19 = .ok (.iload_n 2, 1) := by decide +kernel
theorem d_M_comesOut_20 : decode prog_14_method_32_code 20 = .ok (.bipush 6, 2) := by decide +kernel
theorem d_M_comesOut_22 : decode prog_14_method_32_code 22 = .ok (.if_icmp .eq 19, 3) := by decide +kernel
theorem d_M_comesOut_25 : decode prog_14_method_32_code 25 = .ok (.iload_n 1, 1) := by decide +kernel
theorem d_M_comesOut_26 : decode prog_14_method_32_code 26 = .ok (.ifCond .eq 16, 3) := by decide +kernel
theorem d_M_comesOut_29 : decode prog_14_method_32_code 29 = .ok (.iload_n 2, 1) := by decide +kernel
theorem d_M_comesOut_30 : decode prog_14_method_32_code 30 = .ok (.bipush 8, 2) := by decide +kernel
theorem d_M_comesOut_32 : decode prog_14_method_32_code 32 = .ok (.if_icmp .eq 9, 3) := by decide +kernel
theorem d_M_comesOut_35 : decode prog_14_method_32_code 35 = .ok (.iload_n 2, 1) := by decide +kernel
theorem d_M_comesOut_36 : decode prog_14_method_32_code 36 = .ok (.bipush 9, 2) := by decide +kernel
theorem d_M_comesOut_38 : decode prog_14_method_32_code 38 = .ok (.if_icmp .ne 4, 3) := by decide +kernel
theorem d_M_comesOut_41 : decode prog_14_method_32_code 41 = .ok (.return_, 1) := by decide +kernel
theorem d_M_comesOut_42 : decode prog_14_method_32_code 42 = .ok (.aload_n 0, 1) := by decide +kernel
theorem d_M_comesOut_43 : decode prog_14_method_32_code 43 = .ok (.dup, 1) := by decide +kernel
theorem d_M_comesOut_44 : decode prog_14_method_32_code 44 = .ok (.getfield 302, 3) := by decide +kernel
theorem d_M_comesOut_47 : decode prog_14_method_32_code 47 = .ok (.iconst 1, 1) := by decide +kernel
theorem d_M_comesOut_48 : decode prog_14_method_32_code 48 = .ok (.isub, 1) := by decide +kernel
theorem d_M_comesOut_49 : decode prog_14_method_32_code 49 = .ok (.putfield 302, 3) := by decide +kernel
theorem d_M_comesOut_52 : decode prog_14_method_32_code 52 = .ok (.aload_n 0, 1) := by decide +kernel
theorem d_M_comesOut_53 : decode prog_14_method_32_code 53 = .ok (.iload_n 2, 1) := by decide +kernel
theorem d_M_comesOut_54 : decode prog_14_method_32_code 54 = .ok (.bipush 8, 2) := by decide +kernel
theorem d_M_comesOut_56 : decode prog_14_method_32_code 56 = .ok (.if_icmp .ne 7, 3) := by decide +kernel
theorem d_M_comesOut_59 : decode prog_14_method_32_code 59 = .ok (.iconst 2, 1) := by decide +kernel
theorem d_M_comesOut_60 : decode prog_14_method_32_code 60 = .ok (.goto 24, 3) := by decide +kernel
theorem d_M_comesOut_63 : decode prog_14_method_32_code 63 = .ok (.iload_n 2, 1) := by decide +kernel
theorem d_M_comesOut_64 : decode prog_14_method_32_code 64 = .ok (.bipush 9, 2) := by decide +kernel
theorem d_M_comesOut_66 : decode prog_14_method_32_code 66 = .ok (.if_icmp .ne 7, 3) := by decide +kernel
theorem d_M_comesOut_69 : decode prog_14_method_32_code 69 = .ok (.iconst 3, 1) := by decide +kernel
theorem d_M_comesOut_70 : decode prog_14_method_32_code 70 = .ok (.goto 14, 3) := by decide +kernel
theorem d_M_comesOut_73 : decode prog_14_method_32_code 73 = .ok (.iload_n 2, 1) := by decide +kernel
theorem d_M_comesOut_74 : decode prog_14_method_32_code 74 = .ok (.bipush 10, 2) := by decide +kernel
theorem d_M_comesOut_76 : decode prog_14_method_32_code 76 = .ok (.if_icmp .ne 7, 3) := by decide +kernel
theorem d_M_comesOut_79 : decode prog_14_method_32_code 79 = .ok (.iconst 4, 1) := by decide +kernel
theorem d_M_comesOut_80 : decode prog_14_method_32_code 80 = .ok (.goto 4, 3) := by decide +kernel
theorem d_M_comesOut_83 : decode prog_14_method_32_code 83 = .ok (.iconst 5, 1) := by decide +kernel
theorem d_M_comesOut_84 : decode prog_14_method_32_code 84 = .ok (.iconst 0, 1) := by decide +kernel
theorem d_M_comesOut_85 : decode prog_14_method_32_code 85 = .ok (.invokevirtual 305, 3) := by decide +kernel
theorem d_M_comesOut_88 : decode prog_14_method_32_code 88 = .ok (.goto (-88), 3) := by decide +kernel
theorem d_M_comesOut_91 : decode prog_14_method_32_code 91 = .ok (.return_, 1) := by decide +kernel
noncomputable def Lc_M_comesOut_1 : Xp Bool := o1 (fun x => decide (x > 0)) (gI 12 43 (vR 0))
noncomputable def Lb_M_comesOut_1 : Sm := sBlk 2 (sSeq (sDecl (asV Value.int (aI 0 (gR 12 42 (vR 0)) (o2 (fun x y => x - y) (gI 12 43 (vR 0)) (kI (ii 1)))))) (sSeq (sIf (cOr (o2 (fun x y => decide (x = y)) (vI 2) (kI (ii 6))) (cAnd (o1 (fun x => decide (x ≠ 0)) (vI 1)) (cOr (o2 (fun x y => decide (x = y)) (vI 2) (kI (ii 8))) (o2 (fun x y => decide (x = y)) (vI 2) (kI (ii 9)))))) (sRetV) (sSkip)) (sSeq (sFop 12 43 (vR 0) (fun x y => x - y) (kI (ii 1))) (sCall (mV 12 D_M_emit) [asV Value.ref (vR 0), asV Value.int (iX (o2 (fun x y => decide (x = y)) (vI 2) (kI (ii 8))) (kI (ii 2)) (iX (o2 (fun x y => decide (x = y)) (vI 2) (kI (ii 9))) (kI (ii 3)) (iX (o2 (fun x y => decide (x = y)) (vI 2) (kI (ii 10))) (kI (ii 4)) (kI (ii 5))))), asV Value.int (kI (ii 0))]))))
noncomputable def Lu_M_comesOut_1 : Sm := sSkip
noncomputable def F_M_comesOut : Sm := sSeq (sWh (Lc_M_comesOut_1) (Lb_M_comesOut_1) Lu_M_comesOut_1) (sRetV)
theorem mf_M_comesOut : Mf y_M_comesOut prog_14_method_32_code 3 none 1 := ⟨tw_1685, tw_134, by decide +kernel⟩
noncomputable def D_M_comesOut : Dn := runS [1, 1] F_M_comesOut
theorem ok_M_comesOut : MOK y_M_comesOut prog_14_method_32_code 3 none 1 0 0 D_M_comesOut := MOK.of (by decide) (by decide) (show SO Y_M_comesOut [(0, 1), (1, 1)] [(0, 1), (1, 1)] 0 92 (([], 0), ([], 0)) F_M_comesOut from
  (s_seq (sl1 := [(0, 1), (1, 1)]) (p1 := 91) (s_for (pt := 7) (pu := 0) (pf := 91) (pg := 0) (c_if_leF (p1 := 4) (tg := 91) (e_gI (k0 := 43) (p1 := 1) cf_12 (e_aload_n (k0 := 0) d_M_comesOut_0 rfl rfl) (by decide) tw_1403 d_M_comesOut_1) d_M_comesOut_4 rfl) (s_blk (sl1 := [(0, 1), (1, 1), (2, 1)]) (s_seq (sl1 := [(0, 1), (1, 1), (2, 1)]) (p1 := 19) (s_decl (p1 := 18) (e_iald (p1 := 11) (p2 := 17) (e_gR (k0 := 42) (p1 := 8) cf_12 (e_aload_n (k0 := 0) d_M_comesOut_7 rfl rfl) (by decide) tw_1402 d_M_comesOut_8) (e_isub (p1 := 15) (p2 := 16) (e_gI (k0 := 43) (p1 := 12) cf_12 (e_aload_n (k0 := 0) d_M_comesOut_11 rfl rfl) (by decide) tw_1403 d_M_comesOut_12) (e_iconst d_M_comesOut_15 (by decide)) d_M_comesOut_16) d_M_comesOut_17) (t_istore_n d_M_comesOut_18 rfl (by decide)) rfl) (s_seq (sl1 := [(0, 1), (1, 1), (2, 1)]) (p1 := 42) (s_if (pt := 41) (pf := 42) (c_or (p1 := 25) (c_icmp_eqT (p1 := 20) (p2 := 22) (tg := 41) (e_iload_n (k0 := 2) d_M_comesOut_19 rfl rfl) (e_bipush d_M_comesOut_20 (by decide)) d_M_comesOut_22 rfl) (c_and (p1 := 29) (c_if_eqF (p1 := 26) (tg := 42) (e_iload_n (k0 := 1) d_M_comesOut_25 rfl rfl) d_M_comesOut_26 rfl) (c_or (p1 := 35) (c_icmp_eqT (p1 := 30) (p2 := 32) (tg := 41) (e_iload_n (k0 := 2) d_M_comesOut_29 rfl rfl) (e_bipush d_M_comesOut_30 (by decide)) d_M_comesOut_32 rfl) (c_icmp_neF (p1 := 36) (p2 := 38) (tg := 42) (e_iload_n (k0 := 2) d_M_comesOut_35 rfl rfl) (e_bipush d_M_comesOut_36 (by decide)) d_M_comesOut_38 rfl)))) (s_retV rfl d_M_comesOut_41) s_skip) (s_seq (sl1 := [(0, 1), (1, 1), (2, 1)]) (p1 := 52) (s_fop (k0 := 43) (p1 := 43) (p2 := 48) cf_12 (e_aload_n (k0 := 0) d_M_comesOut_42 rfl rfl) d_M_comesOut_43 d_M_comesOut_44 (e_iconst d_M_comesOut_47 (by decide)) (op_isub d_M_comesOut_48) (by decide) rfl tw_1403 tw_1403 rfl d_M_comesOut_49) (s_goto (p1 := 88) (s_call (p1 := 85) (a_cons (ι := Value.ref) (k0 := 1) (p1 := 53) (fun _ => rfl) (e_aload_n (k0 := 0) d_M_comesOut_52 rfl rfl) (a_cons (ι := Value.int) (k0 := 1) (p1 := 84) (fun _ => rfl) (e_ite (pt := 59) (p1 := 60) (pf := 63) (c_icmp_neF (p1 := 54) (p2 := 56) (tg := 63) (e_iload_n (k0 := 2) d_M_comesOut_53 rfl rfl) (e_bipush d_M_comesOut_54 (by decide)) d_M_comesOut_56 rfl) (e_iconst d_M_comesOut_59 (by decide)) d_M_comesOut_60 rfl (e_ite (pt := 69) (p1 := 70) (pf := 73) (c_icmp_neF (p1 := 64) (p2 := 66) (tg := 73) (e_iload_n (k0 := 2) d_M_comesOut_63 rfl rfl) (e_bipush d_M_comesOut_64 (by decide)) d_M_comesOut_66 rfl) (e_iconst d_M_comesOut_69 (by decide)) d_M_comesOut_70 rfl (e_ite (pt := 79) (p1 := 80) (pf := 83) (c_icmp_neF (p1 := 74) (p2 := 76) (tg := 83) (e_iload_n (k0 := 2) d_M_comesOut_73 rfl rfl) (e_bipush d_M_comesOut_74 (by decide)) d_M_comesOut_76 rfl) (e_iconst d_M_comesOut_79 (by decide)) d_M_comesOut_80 rfl (e_iconst d_M_comesOut_83 (by decide))))) (a_cons (ι := Value.int) (k0 := 1) (p1 := 85) (fun _ => rfl) (e_iconst d_M_comesOut_84 (by decide)) a_nil))) (k_virt ok_M_emit mf_M_emit ⟨tw_1680, tw_69⟩ rfl tw_1678 d_M_comesOut_85 (by decide) (by decide) (by decide))) d_M_comesOut_88 rfl)))) rfl) s_skip) (s_retV rfl d_M_comesOut_91)))
/-! BlinkerCrossModel.expression()V -/
abbrev y_M_expression : MethodName := ⟨"BlinkerCrossModel", "expression", "()V"⟩
abbrev Y_M_expression : Yt := (prog_14_method_33_code, 3, "BlinkerCrossModel", 3, none, "expression")
theorem d_M_expression_0 : decode prog_14_method_33_code 0 = .ok (.aload_n 0, 1) := by decide +kernel
theorem d_M_expression_1 : decode prog_14_method_33_code 1 = .ok (.iconst 0, 1) := by decide +kernel
theorem d_M_expression_2 : decode prog_14_method_33_code 2 = .ok (.putfield 302, 3) := by decide +kernel
theorem d_M_expression_5 : decode prog_14_method_33_code 5 = .ok (.aload_n 0, 1) := by decide +kernel
theorem d_M_expression_6 : decode prog_14_method_33_code 6 = .ok (.getfield 239, 3) := by decide +kernel
theorem d_M_expression_9 : decode prog_14_method_33_code 9 = .ok (.istore_n 1, 1) := by decide +kernel
theorem d_M_expression_10 : decode prog_14_method_33_code 10 = .ok (.iconst 1, 1) := by decide +kernel
theorem d_M_expression_11 : decode prog_14_method_33_code 11 = .ok (.istore_n 2, 1) := by decide +kernel
theorem d_M_expression_12 : decode prog_14_method_33_code 12 = .ok (.iload_n 2, 1) := by decide +kernel
theorem d_M_expression_13 : decode prog_14_method_33_code 13 = .ok (.ifCond .eq 259, 3) := by decide +kernel
theorem d_M_expression_16 : decode prog_14_method_33_code 16 = .ok (.aload_n 0, 1) := by decide +kernel
theorem d_M_expression_17 : decode prog_14_method_33_code 17 = .ok (.getfield 212, 3) := by decide +kernel
theorem d_M_expression_20 : decode prog_14_method_33_code 20 = .ok (.ifCond .ne 252, 3) := by decide +kernel
theorem d_M_expression_23 : decode prog_14_method_33_code 23 = .ok (.aload_n 0, 1) := by decide +kernel
theorem d_M_expression_24 : decode prog_14_method_33_code 24 = .ok (.bipush 6, 2) := by decide +kernel
theorem d_M_expression_26 : decode prog_14_method_33_code 26 = .ok (.invokevirtual 230, 3) := by decide +kernel
theorem d_M_expression_29 : decode prog_14_method_33_code 29 = .ok (.ifCond .eq 55, 3) := by decide +kernel
theorem d_M_expression_32 : decode prog_14_method_33_code 32 = .ok (.aload_n 0, 1) := by decide +kernel
theorem d_M_expression_33 : decode prog_14_method_33_code 33 = .ok (.getfield 239, 3) := by decide +kernel
theorem d_M_expression_36 : decode prog_14_method_33_code 36 = .ok (.bipush 6, 2) := by decide +kernel
theorem d_M_expression_38 : decode prog_14_method_33_code 38 = .ok (.if_icmp .ne 8, 3) := by decide +kernel
theorem d_M_expression_41 : decode prog_14_method_33_code 41 = .ok (.aload_n 0, 1) := by decide +kernel
theorem d_M_expression_42 : decode prog_14_method_33_code 42 = .ok (.iconst 2, 1) := by decide +kernel
theorem d_M_expression_43 : decode prog_14_method_33_code 43 = .ok (.invokevirtual 227, 3) := by decide +kernel
theorem d_M_expression_46 : decode prog_14_method_33_code 46 = .ok (.aload_n 0, 1) := by decide +kernel
theorem d_M_expression_47 : decode prog_14_method_33_code 47 = .ok (.dup, 1) := by decide +kernel
theorem d_M_expression_48 : decode prog_14_method_33_code 48 = .ok (.getfield 239, 3) := by decide +kernel
theorem d_M_expression_51 : decode prog_14_method_33_code 51 = .ok (.iconst 1, 1) := by decide +kernel
theorem d_M_expression_52 : decode prog_14_method_33_code 52 = .ok (.iadd, 1) := by decide +kernel
theorem d_M_expression_53 : decode prog_14_method_33_code 53 = .ok (.putfield 239, 3) := by decide +kernel
theorem d_M_expression_56 : decode prog_14_method_33_code 56 = .ok (.aload_n 0, 1) := by decide +kernel
theorem d_M_expression_57 : decode prog_14_method_33_code 57 = .ok (.invokevirtual 233, 3) := by decide +kernel
theorem d_M_expression_60 : decode prog_14_method_33_code 60 = .ok (.aload_n 0, 1) := by decide +kernel
theorem d_M_expression_61 : decode prog_14_method_33_code 61 = .ok (.getfield 98, 3) := by decide +kernel
theorem d_M_expression_64 : decode prog_14_method_33_code 64 = .ok (.aload_n 0, 1) := by decide +kernel
theorem d_M_expression_65 : decode prog_14_method_33_code 65 = .ok (.getfield 302, 3) := by decide +kernel
theorem d_M_expression_68 : decode prog_14_method_33_code 68 = .ok (.bipush 6, 2) := by decide +kernel
theorem d_M_expression_70 : decode prog_14_method_33_code 70 = .ok (.iastore, 1) := by decide +kernel
theorem d_M_expression_71 : decode prog_14_method_33_code 71 = .ok (.aload_n 0, 1) := by decide +kernel
theorem d_M_expression_72 : decode prog_14_method_33_code 72 = .ok (.dup, 1) := by decide +kernel
theorem d_M_expression_73 : decode prog_14_method_33_code 73 = .ok (.getfield 302, 3) := by decide +kernel
theorem d_M_expression_76 : decode prog_14_method_33_code 76 = .ok (.iconst 1, 1) := by decide +kernel
theorem d_M_expression_77 : decode prog_14_method_33_code 77 = .ok (.iadd, 1) := by decide +kernel
theorem d_M_expression_78 : decode prog_14_method_33_code 78 = .ok (.putfield 302, 3) := by decide +kernel
theorem d_M_expression_81 : decode prog_14_method_33_code 81 = .ok (.goto (-58), 3) := by decide +kernel
theorem d_M_expression_84 : decode prog_14_method_33_code 84 = .ok (.aload_n 0, 1) := by decide +kernel
theorem d_M_expression_85 : decode prog_14_method_33_code 85 = .ok (.invokevirtual 308, 3) := by decide +kernel
theorem d_M_expression_88 : decode prog_14_method_33_code 88 = .ok (.aload_n 0, 1) := by decide +kernel
theorem d_M_expression_89 : decode prog_14_method_33_code 89 = .ok (.getfield 212, 3) := by decide +kernel
theorem d_M_expression_92 : decode prog_14_method_33_code 92 = .ok (.ifCond .le 4, 3) := by decide +kernel
theorem d_M_expression_95 : decode prog_14_method_33_code 95 = .ok (.return_, 1) := by decide +kernel
theorem d_M_expression_96 : decode prog_14_method_33_code 96 = .ok (.aload_n 0, 1) := by decide +kernel
theorem d_M_expression_97 : decode prog_14_method_33_code 97 = .ok (.bipush 7, 2) := by decide +kernel
theorem d_M_expression_99 : decode prog_14_method_33_code 99 = .ok (.invokevirtual 230, 3) := by decide +kernel
theorem d_M_expression_102 : decode prog_14_method_33_code 102 = .ok (.ifCond .eq 43, 3) := by decide +kernel
theorem d_M_expression_105 : decode prog_14_method_33_code 105 = .ok (.aload_n 0, 1) := by decide +kernel
theorem d_M_expression_106 : decode prog_14_method_33_code 106 = .ok (.getfield 239, 3) := by decide +kernel
theorem d_M_expression_109 : decode prog_14_method_33_code 109 = .ok (.iload_n 1, 1) := by decide +kernel
theorem d_M_expression_110 : decode prog_14_method_33_code 110 = .ok (.if_icmp .le 35, 3) := by decide +kernel
theorem d_M_expression_113 : decode prog_14_method_33_code 113 = .ok (.aload_n 0, 1) := by decide +kernel
theorem d_M_expression_114 : decode prog_14_method_33_code 114 = .ok (.iconst 0, 1) := by decide +kernel
theorem d_M_expression_115 : decode prog_14_method_33_code 115 = .ok (.invokevirtual 311, 3) := by decide +kernel
theorem d_M_expression_118 : decode prog_14_method_33_code 118 = .ok (.aload_n 0, 1) := by decide +kernel
theorem d_M_expression_119 : decode prog_14_method_33_code 119 = .ok (.dup, 1) := by decide +kernel
theorem d_M_expression_120 : decode prog_14_method_33_code 120 = .ok (.getfield 302, 3) := by decide +kernel
theorem d_M_expression_123 : decode prog_14_method_33_code 123 = .ok (.iconst 1, 1) := by decide +kernel
theorem d_M_expression_124 : decode prog_14_method_33_code 124 = .ok (.isub, 1) := by decide +kernel
theorem d_M_expression_125 : decode prog_14_method_33_code 125 = .ok (.putfield 302, 3) := by decide +kernel
theorem d_M_expression_128 : decode prog_14_method_33_code 128 = .ok (.aload_n 0, 1) := by decide +kernel
theorem d_M_expression_129 : decode prog_14_method_33_code 129 = .ok (.dup, 1) := by decide +kernel
theorem d_M_expression_130 : decode prog_14_method_33_code 130 = .ok (.getfield 239, 3) := by decide +kernel
theorem d_M_expression_133 : decode prog_14_method_33_code 133 = .ok (.iconst 1, 1) := by decide +kernel
theorem d_M_expression_134 : decode prog_14_method_33_code 134 = .ok (.isub, 1) := by decide +kernel
theorem d_M_expression_135 : decode prog_14_method_33_code 135 = .ok (.putfield 239, 3) := by decide +kernel
theorem d_M_expression_138 : decode prog_14_method_33_code 138 = .ok (.aload_n 0, 1) := by decide +kernel
theorem d_M_expression_139 : decode prog_14_method_33_code 139 = .ok (.invokevirtual 233, 3) := by decide +kernel
theorem d_M_expression_142 : decode prog_14_method_33_code 142 = .ok (.goto (-46), 3) := by decide +kernel
theorem d_M_expression_145 : decode prog_14_method_33_code 145 = .ok (.aload_n 0, 1) := by decide +kernel
theorem d_M_expression_146 : decode prog_14_method_33_code 146 = .ok (.bipush 8, 2) := by decide +kernel
theorem d_M_expression_148 : decode prog_14_method_33_code 148 = .ok (.invokevirtual 230, 3) := by decide +kernel
theorem d_M_expression_151 : decode prog_14_method_33_code 151 = .ok (.ifCond .ne 30, 3) := by decide +kernel
theorem d_M_expression_154 : decode prog_14_method_33_code 154 = .ok (.aload_n 0, 1) := by decide +kernel
theorem d_M_expression_155 : decode prog_14_method_33_code 155 = .ok (.bipush 9, 2) := by decide +kernel
theorem d_M_expression_157 : decode prog_14_method_33_code 157 = .ok (.invokevirtual 230, 3) := by decide +kernel
theorem d_M_expression_160 : decode prog_14_method_33_code 160 = .ok (.ifCond .ne 21, 3) := by decide +kernel
theorem d_M_expression_163 : decode prog_14_method_33_code 163 = .ok (.aload_n 0, 1) := by decide +kernel
theorem d_M_expression_164 : decode prog_14_method_33_code 164 = .ok (.bipush 10, 2) := by decide +kernel
theorem d_M_expression_166 : decode prog_14_method_33_code 166 = .ok (.invokevirtual 230, 3) := by decide +kernel
theorem d_M_expression_169 : decode prog_14_method_33_code 169 = .ok (.ifCond .ne 12, 3) := by decide +kernel
theorem d_M_expression_172 : decode prog_14_method_33_code 172 = .ok (.aload_n 0, 1) := by decide +kernel
theorem d_M_expression_173 : decode prog_14_method_33_code 173 = .ok (.bipush 15, 2) := by decide +kernel
theorem d_M_expression_175 : decode prog_14_method_33_code 175 = .ok (.invokevirtual 230, 3) := by decide +kernel
theorem d_M_expression_178 : decode prog_14_method_33_code 178 = .ok (.ifCond .eq 7, 3) := by decide +kernel
theorem d_M_expression_181 : decode prog_14_method_33_code 181 = .ok (.iconst 1, 1) := by decide +kernel
theorem d_M_expression_182 : decode prog_14_method_33_code 182 = .ok (.goto 4, 3) := by decide +kernel
theorem d_M_expression_185 : decode prog_14_method_33_code 185 = .ok (.iconst 0, 1) := by decide +kernel
theorem d_M_expression_186 : decode prog_14_method_33_code 186 = .ok (.istore_n 2, 1) := by decide +kernel
theorem d_M_expression_187 : decode prog_14_method_33_code 187 = .ok (.iload_n 2, 1) := by decide +kernel
theorem d_M_expression_188 : decode prog_14_method_33_code 188 = .ok (.ifCond .ne 22, 3) := by decide +kernel
theorem d_M_expression_191 : decode prog_14_method_33_code 191 = .ok (.aload_n 0, 1) := by decide +kernel
theorem d_M_expression_192 : decode prog_14_method_33_code 192 = .ok (.getfield 239, 3) := by decide +kernel
theorem d_M_expression_195 : decode prog_14_method_33_code 195 = .ok (.iload_n 1, 1) := by decide +kernel
theorem d_M_expression_196 : decode prog_14_method_33_code 196 = .ok (.if_icmp .le 8, 3) := by decide +kernel
theorem d_M_expression_199 : decode prog_14_method_33_code 199 = .ok (.aload_n 0, 1) := by decide +kernel
theorem d_M_expression_200 : decode prog_14_method_33_code 200 = .ok (.iconst 1, 1) := by decide +kernel
theorem d_M_expression_201 : decode prog_14_method_33_code 201 = .ok (.invokevirtual 227, 3) := by decide +kernel
theorem d_M_expression_204 : decode prog_14_method_33_code 204 = .ok (.aload_n 0, 1) := by decide +kernel
theorem d_M_expression_205 : decode prog_14_method_33_code 205 = .ok (.iconst 0, 1) := by decide +kernel
theorem d_M_expression_206 : decode prog_14_method_33_code 206 = .ok (.invokevirtual 311, 3) := by decide +kernel
theorem d_M_expression_209 : decode prog_14_method_33_code 209 = .ok (.return_, 1) := by decide +kernel
theorem d_M_expression_210 : decode prog_14_method_33_code 210 = .ok (.aload_n 0, 1) := by decide +kernel
theorem d_M_expression_211 : decode prog_14_method_33_code 211 = .ok (.aload_n 0, 1) := by decide +kernel
theorem d_M_expression_212 : decode prog_14_method_33_code 212 = .ok (.bipush 10, 2) := by decide +kernel
theorem d_M_expression_214 : decode prog_14_method_33_code 214 = .ok (.invokevirtual 230, 3) := by decide +kernel
theorem d_M_expression_217 : decode prog_14_method_33_code 217 = .ok (.ifCond .ne 12, 3) := by decide +kernel
theorem d_M_expression_220 : decode prog_14_method_33_code 220 = .ok (.aload_n 0, 1) := by decide +kernel
theorem d_M_expression_221 : decode prog_14_method_33_code 221 = .ok (.bipush 15, 2) := by decide +kernel
theorem d_M_expression_223 : decode prog_14_method_33_code 223 = .ok (.invokevirtual 230, 3) := by decide +kernel
theorem d_M_expression_226 : decode prog_14_method_33_code 226 = .ok (.ifCond .eq 7, 3) := by decide +kernel
theorem d_M_expression_229 : decode prog_14_method_33_code 229 = .ok (.iconst 1, 1) := by decide +kernel
theorem d_M_expression_230 : decode prog_14_method_33_code 230 = .ok (.goto 4, 3) := by decide +kernel
theorem d_M_expression_233 : decode prog_14_method_33_code 233 = .ok (.iconst 0, 1) := by decide +kernel
theorem d_M_expression_234 : decode prog_14_method_33_code 234 = .ok (.invokevirtual 311, 3) := by decide +kernel
theorem d_M_expression_237 : decode prog_14_method_33_code 237 = .ok (.aload_n 0, 1) := by decide +kernel
theorem d_M_expression_238 : decode prog_14_method_33_code 238 = .ok (.getfield 98, 3) := by decide +kernel
theorem d_M_expression_241 : decode prog_14_method_33_code 241 = .ok (.aload_n 0, 1) := by decide +kernel
theorem d_M_expression_242 : decode prog_14_method_33_code 242 = .ok (.getfield 302, 3) := by decide +kernel
theorem d_M_expression_245 : decode prog_14_method_33_code 245 = .ok (.aload_n 0, 1) := by decide +kernel
theorem d_M_expression_246 : decode prog_14_method_33_code 246 = .ok (.getfield 20, 3) := by decide +kernel
theorem d_M_expression_249 : decode prog_14_method_33_code 249 = .ok (.aload_n 0, 1) := by decide +kernel
theorem d_M_expression_250 : decode prog_14_method_33_code 250 = .ok (.getfield 215, 3) := by decide +kernel
theorem d_M_expression_253 : decode prog_14_method_33_code 253 = .ok (.iaload, 1) := by decide +kernel
theorem d_M_expression_254 : decode prog_14_method_33_code 254 = .ok (.iastore, 1) := by decide +kernel
theorem d_M_expression_255 : decode prog_14_method_33_code 255 = .ok (.aload_n 0, 1) := by decide +kernel
theorem d_M_expression_256 : decode prog_14_method_33_code 256 = .ok (.dup, 1) := by decide +kernel
theorem d_M_expression_257 : decode prog_14_method_33_code 257 = .ok (.getfield 302, 3) := by decide +kernel
theorem d_M_expression_260 : decode prog_14_method_33_code 260 = .ok (.iconst 1, 1) := by decide +kernel
theorem d_M_expression_261 : decode prog_14_method_33_code 261 = .ok (.iadd, 1) := by decide +kernel
theorem d_M_expression_262 : decode prog_14_method_33_code 262 = .ok (.putfield 302, 3) := by decide +kernel
theorem d_M_expression_265 : decode prog_14_method_33_code 265 = .ok (.aload_n 0, 1) := by decide +kernel
theorem d_M_expression_266 : decode prog_14_method_33_code 266 = .ok (.invokevirtual 233, 3) := by decide +kernel
theorem d_M_expression_269 : decode prog_14_method_33_code 269 = .ok (.goto (-257), 3) := by decide +kernel
theorem d_M_expression_272 : decode prog_14_method_33_code 272 = .ok (.return_, 1) := by decide +kernel
noncomputable def Lc_M_expression_1 : Xp Bool := o1 (fun x => decide (x ≠ 0)) (cI (mV 12 D_M_is) [asV Value.ref (vR 0), asV Value.int (kI (ii 6))])
noncomputable def Lb_M_expression_1 : Sm := sSeq (sIf (o2 (fun x y => decide (x = y)) (gI 12 12 (vR 0)) (kI (ii 6))) (sCall (mV 12 D_M_fail) [asV Value.ref (vR 0), asV Value.int (kI (ii 2))]) (sSkip)) (sSeq (sFop 12 12 (vR 0) (fun x y => x + y) (kI (ii 1))) (sSeq (sCall (mV 12 D_M_goesOn) [asV Value.ref (vR 0)]) (sSeq (sAst 0 (gR 12 42 (vR 0)) (gI 12 43 (vR 0)) (kI (ii 6))) (sFop 12 43 (vR 0) (fun x y => x + y) (kI (ii 1))))))
noncomputable def Lu_M_expression_1 : Sm := sSkip
noncomputable def Lc_M_expression_2 : Xp Bool := cAnd (o1 (fun x => decide (x ≠ 0)) (cI (mV 12 D_M_is) [asV Value.ref (vR 0), asV Value.int (kI (ii 7))])) (o2 (fun x y => decide (x > y)) (gI 12 12 (vR 0)) (vI 1))
noncomputable def Lb_M_expression_2 : Sm := sSeq (sCall (mV 12 D_M_comesOut) [asV Value.ref (vR 0), asV Value.int (kI (ii 0))]) (sSeq (sFop 12 43 (vR 0) (fun x y => x - y) (kI (ii 1))) (sSeq (sFop 12 12 (vR 0) (fun x y => x - y) (kI (ii 1))) (sCall (mV 12 D_M_goesOn) [asV Value.ref (vR 0)])))
noncomputable def Lu_M_expression_2 : Sm := sSkip
noncomputable def Lc_M_expression_3 : Xp Bool := cAnd (o1 (fun x => decide (x ≠ 0)) (vI 2)) (o1 (fun x => decide (x = 0)) (gI 12 13 (vR 0)))
noncomputable def Lb_M_expression_3 : Sm := sSeq (sWh (Lc_M_expression_1) (Lb_M_expression_1) Lu_M_expression_1) (sSeq (sCall (mV 12 D_M_unit) [asV Value.ref (vR 0)]) (sSeq (sIf (o1 (fun x => decide (x > 0)) (gI 12 13 (vR 0))) (sRetV) (sSkip)) (sSeq (sWh (Lc_M_expression_2) (Lb_M_expression_2) Lu_M_expression_2) (sSeq (sSet 2 (asV Value.int (bX (cOr (cOr (cOr (o1 (fun x => decide (x ≠ 0)) (cI (mV 12 D_M_is) [asV Value.ref (vR 0), asV Value.int (kI (ii 8))])) (o1 (fun x => decide (x ≠ 0)) (cI (mV 12 D_M_is) [asV Value.ref (vR 0), asV Value.int (kI (ii 9))]))) (o1 (fun x => decide (x ≠ 0)) (cI (mV 12 D_M_is) [asV Value.ref (vR 0), asV Value.int (kI (ii 10))]))) (o1 (fun x => decide (x ≠ 0)) (cI (mV 12 D_M_is) [asV Value.ref (vR 0), asV Value.int (kI (ii 15))])))))) (sSeq (sIf (cNot (o1 (fun x => decide (x ≠ 0)) (vI 2))) (sSeq (sIf (o2 (fun x y => decide (x > y)) (gI 12 12 (vR 0)) (vI 1)) (sCall (mV 12 D_M_fail) [asV Value.ref (vR 0), asV Value.int (kI (ii 1))]) (sSkip)) (sSeq (sCall (mV 12 D_M_comesOut) [asV Value.ref (vR 0), asV Value.int (kI (ii 0))]) (sRetV))) (sSkip)) (sSeq (sCall (mV 12 D_M_comesOut) [asV Value.ref (vR 0), asV Value.int (bX (cOr (o1 (fun x => decide (x ≠ 0)) (cI (mV 12 D_M_is) [asV Value.ref (vR 0), asV Value.int (kI (ii 10))])) (o1 (fun x => decide (x ≠ 0)) (cI (mV 12 D_M_is) [asV Value.ref (vR 0), asV Value.int (kI (ii 15))]))))]) (sSeq (sAst 0 (gR 12 42 (vR 0)) (gI 12 43 (vR 0)) (aI 0 (gR 12 5 (vR 0)) (gI 12 11 (vR 0)))) (sSeq (sFop 12 43 (vR 0) (fun x y => x + y) (kI (ii 1))) (sCall (mV 12 D_M_goesOn) [asV Value.ref (vR 0)])))))))))
noncomputable def Lu_M_expression_3 : Sm := sSkip
noncomputable def F_M_expression : Sm := sSeq (sPut 12 43 (vR 0) (asV Value.int (kI (ii 0)))) (sSeq (sDecl (asV Value.int (gI 12 12 (vR 0)))) (sSeq (sDecl (asV Value.int (kI (ii 1)))) (sSeq (sWh (Lc_M_expression_3) (Lb_M_expression_3) Lu_M_expression_3) (sRetV))))
theorem mf_M_expression : Mf y_M_expression prog_14_method_33_code 3 none 0 := ⟨tw_1673, tw_134, by decide +kernel⟩
noncomputable def D_M_expression : Dn := runS [1] F_M_expression
theorem ok_M_expression : MOK y_M_expression prog_14_method_33_code 3 none 3 0 0 D_M_expression := MOK.of (by decide) (by decide) (show SO Y_M_expression [(0, 1)] [(0, 1), (1, 1), (2, 1)] 0 273 (([], 0), ([], 0)) F_M_expression from
  (s_seq (sl1 := [(0, 1)]) (p1 := 5) (s_put (k0 := 43) (p1 := 1) (p2 := 2) cf_12 (e_aload_n (k0 := 0) d_M_expression_0 rfl rfl) (e_iconst d_M_expression_1 (by decide)) (by decide) fk_i tw_1403 (Or.inl rfl) d_M_expression_2) (s_seq (sl1 := [(0, 1), (1, 1)]) (p1 := 10) (s_decl (p1 := 9) (e_gI (k0 := 12) (p1 := 6) cf_12 (e_aload_n (k0 := 0) d_M_expression_5 rfl rfl) (by decide) tw_1372 d_M_expression_6) (t_istore_n d_M_expression_9 rfl (by decide)) rfl) (s_seq (sl1 := [(0, 1), (1, 1), (2, 1)]) (p1 := 12) (s_decl (p1 := 11) (e_iconst d_M_expression_10 (by decide)) (t_istore_n d_M_expression_11 rfl (by decide)) rfl) (s_seq (sl1 := [(0, 1), (1, 1), (2, 1)]) (p1 := 272) (s_for (pt := 23) (pu := 12) (pf := 272) (pg := 0) (c_and (p1 := 16) (c_if_eqF (p1 := 13) (tg := 272) (e_iload_n (k0 := 2) d_M_expression_12 rfl rfl) d_M_expression_13 rfl) (c_if_neF (p1 := 20) (tg := 272) (e_gI (k0 := 13) (p1 := 17) cf_12 (e_aload_n (k0 := 0) d_M_expression_16 rfl rfl) (by decide) tw_1373 d_M_expression_17) d_M_expression_20 rfl)) (s_seq (sl1 := [(0, 1), (1, 1), (2, 1)]) (p1 := 84) (s_for (pt := 32) (pu := 23) (pf := 84) (pg := 0) (c_if_eqF (p1 := 29) (tg := 84) (e_cI (p1 := 26) (a_cons (ι := Value.ref) (k0 := 1) (p1 := 24) (fun _ => rfl) (e_aload_n (k0 := 0) d_M_expression_23 rfl rfl) (a_cons (ι := Value.int) (k0 := 1) (p1 := 26) (fun _ => rfl) (e_bipush d_M_expression_24 (by decide)) a_nil)) (k_virt ok_M_is mf_M_is ⟨tw_1620, tw_54⟩ rfl tw_1618 d_M_expression_26 (by decide) (by decide) (by decide))) d_M_expression_29 rfl) (s_seq (sl1 := [(0, 1), (1, 1), (2, 1)]) (p1 := 46) (s_if (pt := 41) (pf := 46) (c_icmp_neF (p1 := 36) (p2 := 38) (tg := 46) (e_gI (k0 := 12) (p1 := 33) cf_12 (e_aload_n (k0 := 0) d_M_expression_32 rfl rfl) (by decide) tw_1372 d_M_expression_33) (e_bipush d_M_expression_36 (by decide)) d_M_expression_38 rfl) (s_call (p1 := 43) (a_cons (ι := Value.ref) (k0 := 1) (p1 := 42) (fun _ => rfl) (e_aload_n (k0 := 0) d_M_expression_41 rfl rfl) (a_cons (ι := Value.int) (k0 := 1) (p1 := 43) (fun _ => rfl) (e_iconst d_M_expression_42 (by decide)) a_nil)) (k_virt ok_M_fail mf_M_fail ⟨tw_1632, tw_57⟩ rfl tw_1630 d_M_expression_43 (by decide) (by decide) (by decide))) s_skip) (s_seq (sl1 := [(0, 1), (1, 1), (2, 1)]) (p1 := 56) (s_fop (k0 := 12) (p1 := 47) (p2 := 52) cf_12 (e_aload_n (k0 := 0) d_M_expression_46 rfl rfl) d_M_expression_47 d_M_expression_48 (e_iconst d_M_expression_51 (by decide)) (op_iadd d_M_expression_52) (by decide) rfl tw_1372 tw_1372 rfl d_M_expression_53) (s_seq (sl1 := [(0, 1), (1, 1), (2, 1)]) (p1 := 60) (s_call (p1 := 57) (a_cons (ι := Value.ref) (k0 := 1) (p1 := 57) (fun _ => rfl) (e_aload_n (k0 := 0) d_M_expression_56 rfl rfl) a_nil) (k_virt ok_M_goesOn mf_M_goesOn ⟨tw_1636, tw_58⟩ rfl tw_1634 d_M_expression_57 (by decide) (by decide) (by decide))) (s_seq (sl1 := [(0, 1), (1, 1), (2, 1)]) (p1 := 71) (s_ast (p1 := 64) (p2 := 68) (p3 := 70) (e_gR (k0 := 42) (p1 := 61) cf_12 (e_aload_n (k0 := 0) d_M_expression_60 rfl rfl) (by decide) tw_1402 d_M_expression_61) (e_gI (k0 := 43) (p1 := 65) cf_12 (e_aload_n (k0 := 0) d_M_expression_64 rfl rfl) (by decide) tw_1403 d_M_expression_65) (e_bipush d_M_expression_68 (by decide)) (as_i d_M_expression_70)) (s_goto (p1 := 81) (s_fop (k0 := 43) (p1 := 72) (p2 := 77) cf_12 (e_aload_n (k0 := 0) d_M_expression_71 rfl rfl) d_M_expression_72 d_M_expression_73 (e_iconst d_M_expression_76 (by decide)) (op_iadd d_M_expression_77) (by decide) rfl tw_1403 tw_1403 rfl d_M_expression_78) d_M_expression_81 rfl))))) s_skip) (s_seq (sl1 := [(0, 1), (1, 1), (2, 1)]) (p1 := 88) (s_call (p1 := 85) (a_cons (ι := Value.ref) (k0 := 1) (p1 := 85) (fun _ => rfl) (e_aload_n (k0 := 0) d_M_expression_84 rfl rfl) a_nil) (k_virt ok_M_unit mf_M_unit ⟨tw_1676, tw_68⟩ rfl tw_1674 d_M_expression_85 (by decide) (by decide) (by decide))) (s_seq (sl1 := [(0, 1), (1, 1), (2, 1)]) (p1 := 96) (s_if (pt := 95) (pf := 96) (c_if_leF (p1 := 92) (tg := 96) (e_gI (k0 := 13) (p1 := 89) cf_12 (e_aload_n (k0 := 0) d_M_expression_88 rfl rfl) (by decide) tw_1373 d_M_expression_89) d_M_expression_92 rfl) (s_retV rfl d_M_expression_95) s_skip) (s_seq (sl1 := [(0, 1), (1, 1), (2, 1)]) (p1 := 145) (s_for (pt := 113) (pu := 96) (pf := 145) (pg := 0) (c_and (p1 := 105) (c_if_eqF (p1 := 102) (tg := 145) (e_cI (p1 := 99) (a_cons (ι := Value.ref) (k0 := 1) (p1 := 97) (fun _ => rfl) (e_aload_n (k0 := 0) d_M_expression_96 rfl rfl) (a_cons (ι := Value.int) (k0 := 1) (p1 := 99) (fun _ => rfl) (e_bipush d_M_expression_97 (by decide)) a_nil)) (k_virt ok_M_is mf_M_is ⟨tw_1620, tw_54⟩ rfl tw_1618 d_M_expression_99 (by decide) (by decide) (by decide))) d_M_expression_102 rfl) (c_icmp_leF (p1 := 109) (p2 := 110) (tg := 145) (e_gI (k0 := 12) (p1 := 106) cf_12 (e_aload_n (k0 := 0) d_M_expression_105 rfl rfl) (by decide) tw_1372 d_M_expression_106) (e_iload_n (k0 := 1) d_M_expression_109 rfl rfl) d_M_expression_110 rfl)) (s_seq (sl1 := [(0, 1), (1, 1), (2, 1)]) (p1 := 118) (s_call (p1 := 115) (a_cons (ι := Value.ref) (k0 := 1) (p1 := 114) (fun _ => rfl) (e_aload_n (k0 := 0) d_M_expression_113 rfl rfl) (a_cons (ι := Value.int) (k0 := 1) (p1 := 115) (fun _ => rfl) (e_iconst d_M_expression_114 (by decide)) a_nil)) (k_virt ok_M_comesOut mf_M_comesOut ⟨tw_1684, tw_70⟩ rfl tw_1682 d_M_expression_115 (by decide) (by decide) (by decide))) (s_seq (sl1 := [(0, 1), (1, 1), (2, 1)]) (p1 := 128) (s_fop (k0 := 43) (p1 := 119) (p2 := 124) cf_12 (e_aload_n (k0 := 0) d_M_expression_118 rfl rfl) d_M_expression_119 d_M_expression_120 (e_iconst d_M_expression_123 (by decide)) (op_isub d_M_expression_124) (by decide) rfl tw_1403 tw_1403 rfl d_M_expression_125) (s_seq (sl1 := [(0, 1), (1, 1), (2, 1)]) (p1 := 138) (s_fop (k0 := 12) (p1 := 129) (p2 := 134) cf_12 (e_aload_n (k0 := 0) d_M_expression_128 rfl rfl) d_M_expression_129 d_M_expression_130 (e_iconst d_M_expression_133 (by decide)) (op_isub d_M_expression_134) (by decide) rfl tw_1372 tw_1372 rfl d_M_expression_135) (s_goto (p1 := 142) (s_call (p1 := 139) (a_cons (ι := Value.ref) (k0 := 1) (p1 := 139) (fun _ => rfl) (e_aload_n (k0 := 0) d_M_expression_138 rfl rfl) a_nil) (k_virt ok_M_goesOn mf_M_goesOn ⟨tw_1636, tw_58⟩ rfl tw_1634 d_M_expression_139 (by decide) (by decide) (by decide))) d_M_expression_142 rfl)))) s_skip) (s_seq (sl1 := [(0, 1), (1, 1), (2, 1)]) (p1 := 187) (s_set (k0 := 2) (p1 := 186) (e_bool (pt := 181) (pf := 185) (c_or (p1 := 172) (c_or (p1 := 163) (c_or (p1 := 154) (c_if_neT (p1 := 151) (tg := 181) (e_cI (p1 := 148) (a_cons (ι := Value.ref) (k0 := 1) (p1 := 146) (fun _ => rfl) (e_aload_n (k0 := 0) d_M_expression_145 rfl rfl) (a_cons (ι := Value.int) (k0 := 1) (p1 := 148) (fun _ => rfl) (e_bipush d_M_expression_146 (by decide)) a_nil)) (k_virt ok_M_is mf_M_is ⟨tw_1620, tw_54⟩ rfl tw_1618 d_M_expression_148 (by decide) (by decide) (by decide))) d_M_expression_151 rfl) (c_if_neT (p1 := 160) (tg := 181) (e_cI (p1 := 157) (a_cons (ι := Value.ref) (k0 := 1) (p1 := 155) (fun _ => rfl) (e_aload_n (k0 := 0) d_M_expression_154 rfl rfl) (a_cons (ι := Value.int) (k0 := 1) (p1 := 157) (fun _ => rfl) (e_bipush d_M_expression_155 (by decide)) a_nil)) (k_virt ok_M_is mf_M_is ⟨tw_1620, tw_54⟩ rfl tw_1618 d_M_expression_157 (by decide) (by decide) (by decide))) d_M_expression_160 rfl)) (c_if_neT (p1 := 169) (tg := 181) (e_cI (p1 := 166) (a_cons (ι := Value.ref) (k0 := 1) (p1 := 164) (fun _ => rfl) (e_aload_n (k0 := 0) d_M_expression_163 rfl rfl) (a_cons (ι := Value.int) (k0 := 1) (p1 := 166) (fun _ => rfl) (e_bipush d_M_expression_164 (by decide)) a_nil)) (k_virt ok_M_is mf_M_is ⟨tw_1620, tw_54⟩ rfl tw_1618 d_M_expression_166 (by decide) (by decide) (by decide))) d_M_expression_169 rfl)) (c_if_eqF (p1 := 178) (tg := 185) (e_cI (p1 := 175) (a_cons (ι := Value.ref) (k0 := 1) (p1 := 173) (fun _ => rfl) (e_aload_n (k0 := 0) d_M_expression_172 rfl rfl) (a_cons (ι := Value.int) (k0 := 1) (p1 := 175) (fun _ => rfl) (e_bipush d_M_expression_173 (by decide)) a_nil)) (k_virt ok_M_is mf_M_is ⟨tw_1620, tw_54⟩ rfl tw_1618 d_M_expression_175 (by decide) (by decide) (by decide))) d_M_expression_178 rfl)) d_M_expression_181 d_M_expression_182 rfl d_M_expression_185 rfl) (t_istore_n d_M_expression_186 rfl (by decide)) rfl rfl) (s_seq (sl1 := [(0, 1), (1, 1), (2, 1)]) (p1 := 210) (s_if (pt := 191) (pf := 210) (c_not (c_if_neT (p1 := 188) (tg := 210) (e_iload_n (k0 := 2) d_M_expression_187 rfl rfl) d_M_expression_188 rfl)) (s_seq (sl1 := [(0, 1), (1, 1), (2, 1)]) (p1 := 204) (s_if (pt := 199) (pf := 204) (c_icmp_leF (p1 := 195) (p2 := 196) (tg := 204) (e_gI (k0 := 12) (p1 := 192) cf_12 (e_aload_n (k0 := 0) d_M_expression_191 rfl rfl) (by decide) tw_1372 d_M_expression_192) (e_iload_n (k0 := 1) d_M_expression_195 rfl rfl) d_M_expression_196 rfl) (s_call (p1 := 201) (a_cons (ι := Value.ref) (k0 := 1) (p1 := 200) (fun _ => rfl) (e_aload_n (k0 := 0) d_M_expression_199 rfl rfl) (a_cons (ι := Value.int) (k0 := 1) (p1 := 201) (fun _ => rfl) (e_iconst d_M_expression_200 (by decide)) a_nil)) (k_virt ok_M_fail mf_M_fail ⟨tw_1632, tw_57⟩ rfl tw_1630 d_M_expression_201 (by decide) (by decide) (by decide))) s_skip) (s_seq (sl1 := [(0, 1), (1, 1), (2, 1)]) (p1 := 209) (s_call (p1 := 206) (a_cons (ι := Value.ref) (k0 := 1) (p1 := 205) (fun _ => rfl) (e_aload_n (k0 := 0) d_M_expression_204 rfl rfl) (a_cons (ι := Value.int) (k0 := 1) (p1 := 206) (fun _ => rfl) (e_iconst d_M_expression_205 (by decide)) a_nil)) (k_virt ok_M_comesOut mf_M_comesOut ⟨tw_1684, tw_70⟩ rfl tw_1682 d_M_expression_206 (by decide) (by decide) (by decide))) (s_retV rfl d_M_expression_209))) s_skip) (s_seq (sl1 := [(0, 1), (1, 1), (2, 1)]) (p1 := 237) (s_call (p1 := 234) (a_cons (ι := Value.ref) (k0 := 1) (p1 := 211) (fun _ => rfl) (e_aload_n (k0 := 0) d_M_expression_210 rfl rfl) (a_cons (ι := Value.int) (k0 := 1) (p1 := 234) (fun _ => rfl) (e_bool (pt := 229) (pf := 233) (c_or (p1 := 220) (c_if_neT (p1 := 217) (tg := 229) (e_cI (p1 := 214) (a_cons (ι := Value.ref) (k0 := 1) (p1 := 212) (fun _ => rfl) (e_aload_n (k0 := 0) d_M_expression_211 rfl rfl) (a_cons (ι := Value.int) (k0 := 1) (p1 := 214) (fun _ => rfl) (e_bipush d_M_expression_212 (by decide)) a_nil)) (k_virt ok_M_is mf_M_is ⟨tw_1620, tw_54⟩ rfl tw_1618 d_M_expression_214 (by decide) (by decide) (by decide))) d_M_expression_217 rfl) (c_if_eqF (p1 := 226) (tg := 233) (e_cI (p1 := 223) (a_cons (ι := Value.ref) (k0 := 1) (p1 := 221) (fun _ => rfl) (e_aload_n (k0 := 0) d_M_expression_220 rfl rfl) (a_cons (ι := Value.int) (k0 := 1) (p1 := 223) (fun _ => rfl) (e_bipush d_M_expression_221 (by decide)) a_nil)) (k_virt ok_M_is mf_M_is ⟨tw_1620, tw_54⟩ rfl tw_1618 d_M_expression_223 (by decide) (by decide) (by decide))) d_M_expression_226 rfl)) d_M_expression_229 d_M_expression_230 rfl d_M_expression_233 rfl) a_nil)) (k_virt ok_M_comesOut mf_M_comesOut ⟨tw_1684, tw_70⟩ rfl tw_1682 d_M_expression_234 (by decide) (by decide) (by decide))) (s_seq (sl1 := [(0, 1), (1, 1), (2, 1)]) (p1 := 255) (s_ast (p1 := 241) (p2 := 245) (p3 := 254) (e_gR (k0 := 42) (p1 := 238) cf_12 (e_aload_n (k0 := 0) d_M_expression_237 rfl rfl) (by decide) tw_1402 d_M_expression_238) (e_gI (k0 := 43) (p1 := 242) cf_12 (e_aload_n (k0 := 0) d_M_expression_241 rfl rfl) (by decide) tw_1403 d_M_expression_242) (e_iald (p1 := 249) (p2 := 253) (e_gR (k0 := 5) (p1 := 246) cf_12 (e_aload_n (k0 := 0) d_M_expression_245 rfl rfl) (by decide) tw_1365 d_M_expression_246) (e_gI (k0 := 11) (p1 := 250) cf_12 (e_aload_n (k0 := 0) d_M_expression_249 rfl rfl) (by decide) tw_1371 d_M_expression_250) d_M_expression_253) (as_i d_M_expression_254)) (s_seq (sl1 := [(0, 1), (1, 1), (2, 1)]) (p1 := 265) (s_fop (k0 := 43) (p1 := 256) (p2 := 261) cf_12 (e_aload_n (k0 := 0) d_M_expression_255 rfl rfl) d_M_expression_256 d_M_expression_257 (e_iconst d_M_expression_260 (by decide)) (op_iadd d_M_expression_261) (by decide) rfl tw_1403 tw_1403 rfl d_M_expression_262) (s_goto (p1 := 269) (s_call (p1 := 266) (a_cons (ι := Value.ref) (k0 := 1) (p1 := 266) (fun _ => rfl) (e_aload_n (k0 := 0) d_M_expression_265 rfl rfl) a_nil) (k_virt ok_M_goesOn mf_M_goesOn ⟨tw_1636, tw_58⟩ rfl tw_1634 d_M_expression_266 (by decide) (by decide) (by decide))) d_M_expression_269 rfl)))))))))) s_skip) (s_retV rfl d_M_expression_272))))))

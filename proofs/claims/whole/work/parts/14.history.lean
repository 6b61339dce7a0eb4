/-! Methods: bytes, denotations, that the bytes do so (written by wip/whole/jgen.py). -/
/-! BlinkerCross$History.clear()V -/
abbrev y_History_clear : MethodName := ⟨"BlinkerCross$History", "clear", "()V"⟩
abbrev Y_History_clear : Yt := (prog_4_method_2_code, 2, "BlinkerCross$History", 0, none, "clear")
theorem d_History_clear_0 : decode prog_4_method_2_code 0 = .ok (.aload_n 0, 1) := by decide +kernel
theorem d_History_clear_1 : decode prog_4_method_2_code 1 = .ok (.iconst 0, 1) := by decide +kernel
theorem d_History_clear_2 : decode prog_4_method_2_code 2 = .ok (.putfield 23, 3) := by decide +kernel
theorem d_History_clear_5 : decode prog_4_method_2_code 5 = .ok (.iconst 0, 1) := by decide +kernel
theorem d_History_clear_6 : decode prog_4_method_2_code 6 = .ok (.istore_n 1, 1) := by decide +kernel
theorem d_History_clear_7 : decode prog_4_method_2_code 7 = .ok (.iload_n 1, 1) := by decide +kernel
theorem d_History_clear_8 : decode prog_4_method_2_code 8 = .ok (.iconst 3, 1) := by decide +kernel
theorem d_History_clear_9 : decode prog_4_method_2_code 9 = .ok (.if_icmp .ge 16, 3) := by decide +kernel
theorem d_History_clear_12 : decode prog_4_method_2_code 12 = .ok (.aload_n 0, 1) := by decide +kernel
theorem d_History_clear_13 : decode prog_4_method_2_code 13 = .ok (.getfield 19, 3) := by decide +kernel
theorem d_History_clear_16 : decode prog_4_method_2_code 16 = .ok (.iload_n 1, 1) := by decide +kernel
theorem d_History_clear_17 : decode prog_4_method_2_code 17 = .ok (.iconst 0, 1) := by decide +kernel
theorem d_History_clear_18 : decode prog_4_method_2_code 18 = .ok (.bastore, 1) := by decide +kernel
theorem d_History_clear_19 : decode prog_4_method_2_code 19 = .ok (.iinc 1 1, 3) := by decide +kernel
theorem d_History_clear_22 : decode prog_4_method_2_code 22 = .ok (.goto (-15), 3) := by decide +kernel
theorem d_History_clear_25 : decode prog_4_method_2_code 25 = .ok (.return_, 1) := by decide +kernel
noncomputable def Lc_History_clear_1 : Xp Bool := o2 (fun x y => decide (x < y)) (vI 1) (kI (ii 3))
noncomputable def Lb_History_clear_1 : Sm := sAst 3 (gR 11 4 (vR 0)) (vI 1) (kI (ii 0))
noncomputable def Lu_History_clear_1 : Sm := sInc 1 (ii 1)
noncomputable def F_History_clear : Sm := sSeq (sPut 11 0 (vR 0) (asV Value.int (kI (ii 0)))) (sSeq (sBlk 1 (sSeq (sDecl (asV Value.int (kI (ii 0)))) (sWh (Lc_History_clear_1) (Lb_History_clear_1) Lu_History_clear_1))) (sRetV))
theorem mf_History_clear : Mf y_History_clear prog_4_method_2_code 2 none 0 := ⟨tw_879, tw_133, by decide +kernel⟩
noncomputable def D_History_clear : Dn := runS [1] F_History_clear
theorem ok_History_clear : MOK y_History_clear prog_4_method_2_code 2 none 0 0 0 D_History_clear := MOK.of (by decide) (by decide) (show SO Y_History_clear [(0, 1)] [(0, 1)] 0 26 (([], 0), ([], 0)) F_History_clear from
  (s_seq (sl1 := [(0, 1)]) (p1 := 5) (s_put (k0 := 0) (p1 := 1) (p2 := 2) cf_11 (e_aload_n (k0 := 0) d_History_clear_0 rfl rfl) (e_iconst d_History_clear_1 (by decide)) (by decide) fk_i tw_548 (Or.inl rfl) d_History_clear_2) (s_seq (sl1 := [(0, 1)]) (p1 := 25) (s_blk (sl1 := [(0, 1), (1, 1)]) (s_seq (sl1 := [(0, 1), (1, 1)]) (p1 := 7) (s_decl (p1 := 6) (e_iconst d_History_clear_5 (by decide)) (t_istore_n d_History_clear_6 rfl (by decide)) rfl) (s_for (pt := 12) (pu := 19) (pf := 25) (pg := 0) (c_icmp_geF (p1 := 8) (p2 := 9) (tg := 25) (e_iload_n (k0 := 1) d_History_clear_7 rfl rfl) (e_iconst d_History_clear_8 (by decide)) d_History_clear_9 rfl) (s_ast (p1 := 16) (p2 := 17) (p3 := 18) (e_gR (k0 := 4) (p1 := 13) cf_11 (e_aload_n (k0 := 0) d_History_clear_12 rfl rfl) (by decide) tw_553 d_History_clear_13) (e_iload_n (k0 := 1) d_History_clear_16 rfl rfl) (e_iconst d_History_clear_17 (by decide)) (as_z d_History_clear_18)) (s_goto (p1 := 22) (s_inc (k0 := 1) d_History_clear_19 rfl rfl (Nat.le_of_ble_eq_true rfl) rfl) d_History_clear_22 rfl))) rfl) (s_retV rfl d_History_clear_25))))
/-! BlinkerCross$History.remember(LBlinkerCross$Scene;)V -/
abbrev y_History_remember : MethodName := ⟨"BlinkerCross$History", "remember", "(LBlinkerCross$Scene;)V"⟩
abbrev Y_History_remember : Yt := (prog_4_method_3_code, 2, "BlinkerCross$History", 2, none, "remember")
theorem d_History_remember_0 : decode prog_4_method_3_code 0 = .ok (.aload_n 1, 1) := by decide +kernel
theorem d_History_remember_1 : decode prog_4_method_3_code 1 = .ok (.aload_n 0, 1) := by decide +kernel
theorem d_History_remember_2 : decode prog_4_method_3_code 2 = .ok (.getfield 11, 3) := by decide +kernel
theorem d_History_remember_5 : decode prog_4_method_3_code 5 = .ok (.aload_n 0, 1) := by decide +kernel
theorem d_History_remember_6 : decode prog_4_method_3_code 6 = .ok (.getfield 27, 3) := by decide +kernel
theorem d_History_remember_9 : decode prog_4_method_3_code 9 = .ok (.aaload, 1) := by decide +kernel
theorem d_History_remember_10 : decode prog_4_method_3_code 10 = .ok (.invokevirtual 30, 3) := by decide +kernel
theorem d_History_remember_13 : decode prog_4_method_3_code 13 = .ok (.aload_n 0, 1) := by decide +kernel
theorem d_History_remember_14 : decode prog_4_method_3_code 14 = .ok (.aload_n 0, 1) := by decide +kernel
theorem d_History_remember_15 : decode prog_4_method_3_code 15 = .ok (.getfield 27, 3) := by decide +kernel
theorem d_History_remember_18 : decode prog_4_method_3_code 18 = .ok (.iconst 1, 1) := by decide +kernel
theorem d_History_remember_19 : decode prog_4_method_3_code 19 = .ok (.iadd, 1) := by decide +kernel
theorem d_History_remember_20 : decode prog_4_method_3_code 20 = .ok (.bipush 40, 2) := by decide +kernel
theorem d_History_remember_22 : decode prog_4_method_3_code 22 = .ok (.if_icmp .ge 12, 3) := by decide +kernel
theorem d_History_remember_25 : decode prog_4_method_3_code 25 = .ok (.aload_n 0, 1) := by decide +kernel
theorem d_History_remember_26 : decode prog_4_method_3_code 26 = .ok (.getfield 27, 3) := by decide +kernel
theorem d_History_remember_29 : decode prog_4_method_3_code 29 = .ok (.iconst 1, 1) := by decide +kernel
theorem d_History_remember_30 : decode prog_4_method_3_code 30 = .ok (.iadd, 1) := by decide +kernel
theorem d_History_remember_31 : decode prog_4_method_3_code 31 = .ok (.goto 4, 3) := by decide +kernel
theorem d_History_remember_34 : decode prog_4_method_3_code 34 = .ok (.iconst 0, 1) := by decide +kernel
theorem d_History_remember_35 : decode prog_4_method_3_code 35 = .ok (.putfield 27, 3) := by decide +kernel
theorem d_History_remember_38 : decode prog_4_method_3_code 38 = .ok (.aload_n 0, 1) := by decide +kernel
theorem d_History_remember_39 : decode prog_4_method_3_code 39 = .ok (.aload_n 0, 1) := by decide +kernel
theorem d_History_remember_40 : decode prog_4_method_3_code 40 = .ok (.getfield 23, 3) := by decide +kernel
theorem d_History_remember_43 : decode prog_4_method_3_code 43 = .ok (.iconst 1, 1) := by decide +kernel
theorem d_History_remember_44 : decode prog_4_method_3_code 44 = .ok (.iadd, 1) := by decide +kernel
theorem d_History_remember_45 : decode prog_4_method_3_code 45 = .ok (.bipush 40, 2) := by decide +kernel
theorem d_History_remember_47 : decode prog_4_method_3_code 47 = .ok (.invokestatic 36, 3) := by decide +kernel
theorem d_History_remember_50 : decode prog_4_method_3_code 50 = .ok (.putfield 23, 3) := by decide +kernel
theorem d_History_remember_53 : decode prog_4_method_3_code 53 = .ok (.return_, 1) := by decide +kernel
noncomputable def F_History_remember : Sm := sSeq (sCall (mV 4 D_Scene_copyTo) [asV Value.ref (vR 1), asV Value.ref (aR (gR 11 1 (vR 0)) (gI 11 2 (vR 0)))]) (sSeq (sPut 11 2 (vR 0) (asV Value.int (iX (o2 (fun x y => decide (x < y)) (o2 (fun x y => x + y) (gI 11 2 (vR 0)) (kI (ii 1))) (kI (ii 40))) (o2 (fun x y => x + y) (gI 11 2 (vR 0)) (kI (ii 1))) (kI (ii 0))))) (sSeq (sPut 11 0 (vR 0) (asV Value.int (o2 (fun x y => if y < x then y else x) (o2 (fun x y => x + y) (gI 11 0 (vR 0)) (kI (ii 1))) (kI (ii 40))))) (sRetV)))
theorem mf_History_remember : Mf y_History_remember prog_4_method_3_code 2 none 1 := ⟨tw_987, tw_133, by decide +kernel⟩
noncomputable def D_History_remember : Dn := runS [1, 1] F_History_remember
theorem ok_History_remember : MOK y_History_remember prog_4_method_3_code 2 none 2 0 0 D_History_remember := MOK.of (by decide) (by decide) (show SO Y_History_remember [(0, 1), (1, 1)] [(0, 1), (1, 1)] 0 54 (([], 0), ([], 0)) F_History_remember from
  (s_seq (sl1 := [(0, 1), (1, 1)]) (p1 := 13) (s_call (p1 := 10) (a_cons (ι := Value.ref) (k0 := 1) (p1 := 1) (fun _ => rfl) (e_aload_n (k0 := 1) d_History_remember_0 rfl rfl) (a_cons (ι := Value.ref) (k0 := 1) (p1 := 10) (fun _ => rfl) (e_aald (p1 := 5) (p2 := 9) (e_gR (k0 := 1) (p1 := 2) cf_11 (e_aload_n (k0 := 0) d_History_remember_1 rfl rfl) (by decide) tw_550 d_History_remember_2) (e_gI (k0 := 2) (p1 := 6) cf_11 (e_aload_n (k0 := 0) d_History_remember_5 rfl rfl) (by decide) tw_551 d_History_remember_6) d_History_remember_9) a_nil)) (k_virt ok_Scene_copyTo mf_Scene_copyTo ⟨tw_989, tw_990⟩ rfl tw_988 d_History_remember_10 (by decide) (by decide) (by decide))) (s_seq (sl1 := [(0, 1), (1, 1)]) (p1 := 38) (s_put (k0 := 2) (p1 := 14) (p2 := 35) cf_11 (e_aload_n (k0 := 0) d_History_remember_13 rfl rfl) (e_ite (pt := 25) (p1 := 31) (pf := 34) (c_icmp_geF (p1 := 20) (p2 := 22) (tg := 34) (e_iadd (p1 := 18) (p2 := 19) (e_gI (k0 := 2) (p1 := 15) cf_11 (e_aload_n (k0 := 0) d_History_remember_14 rfl rfl) (by decide) tw_551 d_History_remember_15) (e_iconst d_History_remember_18 (by decide)) d_History_remember_19) (e_bipush d_History_remember_20 (by decide)) d_History_remember_22 rfl) (e_iadd (p1 := 29) (p2 := 30) (e_gI (k0 := 2) (p1 := 26) cf_11 (e_aload_n (k0 := 0) d_History_remember_25 rfl rfl) (by decide) tw_551 d_History_remember_26) (e_iconst d_History_remember_29 (by decide)) d_History_remember_30) d_History_remember_31 rfl (e_iconst d_History_remember_34 (by decide))) (by decide) fk_i tw_551 (Or.inl rfl) d_History_remember_35) (s_seq (sl1 := [(0, 1), (1, 1)]) (p1 := 53) (s_put (k0 := 0) (p1 := 39) (p2 := 50) cf_11 (e_aload_n (k0 := 0) d_History_remember_38 rfl rfl) (e_min (p1 := 45) (p2 := 47) (e_iadd (p1 := 43) (p2 := 44) (e_gI (k0 := 0) (p1 := 40) cf_11 (e_aload_n (k0 := 0) d_History_remember_39 rfl rfl) (by decide) tw_548 d_History_remember_40) (e_iconst d_History_remember_43 (by decide)) d_History_remember_44) (e_bipush d_History_remember_45 (by decide)) ⟨tw_992, tw_723, tw_139, tw_724⟩ d_History_remember_47 (by decide) (by decide)) (by decide) fk_i tw_548 (Or.inl rfl) d_History_remember_50) (s_retV rfl d_History_remember_53)))))
/-! BlinkerCross$History.takeBack(LBlinkerCross$Scene;)Z -/
abbrev y_History_takeBack : MethodName := ⟨"BlinkerCross$History", "takeBack", "(LBlinkerCross$Scene;)Z"⟩
abbrev Y_History_takeBack : Yt := (prog_4_method_4_code, 2, "BlinkerCross$History", 4, (some .boolean), "takeBack")
theorem d_History_takeBack_0 : decode prog_4_method_4_code 0 = .ok (.aload_n 0, 1) := by decide +kernel
theorem d_History_takeBack_1 : decode prog_4_method_4_code 1 = .ok (.getfield 23, 3) := by decide +kernel
theorem d_History_takeBack_4 : decode prog_4_method_4_code 4 = .ok (.ifCond .ne 5, 3) := by decide +kernel
theorem d_History_takeBack_7 : decode prog_4_method_4_code 7 = .ok (.iconst 0, 1) := by decide +kernel
theorem d_History_takeBack_8 : decode prog_4_method_4_code 8 = .ok (.ireturn, 1) := by decide +kernel
theorem d_History_takeBack_9 : decode prog_4_method_4_code 9 = .ok (.aload_n 0, 1) := by decide +kernel
theorem d_History_takeBack_10 : decode prog_4_method_4_code 10 = .ok (.aload_n 0, 1) := by decide +kernel
theorem d_History_takeBack_11 : decode prog_4_method_4_code 11 = .ok (.getfield 27, 3) := by decide +kernel
theorem d_History_takeBack_14 : decode prog_4_method_4_code 14 = .ok (.ifCond .le 12, 3) := by decide +kernel
theorem d_History_takeBack_17 : decode prog_4_method_4_code 17 = .ok (.aload_n 0, 1) := by decide +kernel
theorem d_History_takeBack_18 : decode prog_4_method_4_code 18 = .ok (.getfield 27, 3) := by decide +kernel
theorem d_History_takeBack_21 : decode prog_4_method_4_code 21 = .ok (.iconst 1, 1) := by decide +kernel
theorem d_History_takeBack_22 : decode prog_4_method_4_code 22 = .ok (.isub, 1) := by decide +kernel
theorem d_History_takeBack_23 : decode prog_4_method_4_code 23 = .ok (.goto 5, 3) := by decide +kernel
theorem d_History_takeBack_26 : decode prog_4_method_4_code 26 = .ok (.bipush 39, 2) := by decide +kernel
theorem d_History_takeBack_28 : decode prog_4_method_4_code 28 = .ok (.putfield 27, 3) := by decide +kernel
theorem d_History_takeBack_31 : decode prog_4_method_4_code 31 = .ok (.aload_n 0, 1) := by decide +kernel
theorem d_History_takeBack_32 : decode prog_4_method_4_code 32 = .ok (.dup, 1) := by decide +kernel
theorem d_History_takeBack_33 : decode prog_4_method_4_code 33 = .ok (.getfield 23, 3) := by decide +kernel
theorem d_History_takeBack_36 : decode prog_4_method_4_code 36 = .ok (.iconst 1, 1) := by decide +kernel
theorem d_History_takeBack_37 : decode prog_4_method_4_code 37 = .ok (.isub, 1) := by decide +kernel
theorem d_History_takeBack_38 : decode prog_4_method_4_code 38 = .ok (.putfield 23, 3) := by decide +kernel
theorem d_History_takeBack_41 : decode prog_4_method_4_code 41 = .ok (.aload_n 1, 1) := by decide +kernel
theorem d_History_takeBack_42 : decode prog_4_method_4_code 42 = .ok (.aload_n 0, 1) := by decide +kernel
theorem d_History_takeBack_43 : decode prog_4_method_4_code 43 = .ok (.getfield 11, 3) := by decide +kernel
theorem d_History_takeBack_46 : decode prog_4_method_4_code 46 = .ok (.aload_n 0, 1) := by decide +kernel
theorem d_History_takeBack_47 : decode prog_4_method_4_code 47 = .ok (.getfield 27, 3) := by decide +kernel
theorem d_History_takeBack_50 : decode prog_4_method_4_code 50 = .ok (.aaload, 1) := by decide +kernel
theorem d_History_takeBack_51 : decode prog_4_method_4_code 51 = .ok (.invokevirtual 42, 3) := by decide +kernel
theorem d_History_takeBack_54 : decode prog_4_method_4_code 54 = .ok (.iconst 1, 1) := by decide +kernel
theorem d_History_takeBack_55 : decode prog_4_method_4_code 55 = .ok (.ireturn, 1) := by decide +kernel
noncomputable def F_History_takeBack : Sm := sSeq (sIf (o1 (fun x => decide (x = 0)) (gI 11 0 (vR 0))) (sRetZ (kI (ii 0))) (sSkip)) (sSeq (sPut 11 2 (vR 0) (asV Value.int (iX (o1 (fun x => decide (x > 0)) (gI 11 2 (vR 0))) (o2 (fun x y => x - y) (gI 11 2 (vR 0)) (kI (ii 1))) (kI (ii 39))))) (sSeq (sFop 11 0 (vR 0) (fun x y => x - y) (kI (ii 1))) (sSeq (sCall (mV 4 D_Scene_become) [asV Value.ref (vR 1), asV Value.ref (aR (gR 11 1 (vR 0)) (gI 11 2 (vR 0)))]) (sRetZ (kI (ii 1))))))
theorem mf_History_takeBack : Mf y_History_takeBack prog_4_method_4_code 2 (some .boolean) 1 := ⟨tw_1041, tw_133, by decide +kernel⟩
noncomputable def D_History_takeBack : Dn := runS [1, 1] F_History_takeBack
theorem ok_History_takeBack : MOK y_History_takeBack prog_4_method_4_code 2 (some .boolean) 4 0 0 D_History_takeBack := MOK.of (by decide) (by decide) (show SO Y_History_takeBack [(0, 1), (1, 1)] [(0, 1), (1, 1)] 0 56 (([], 0), ([], 0)) F_History_takeBack from
  (s_seq (sl1 := [(0, 1), (1, 1)]) (p1 := 9) (s_if (pt := 7) (pf := 9) (c_if_neF (p1 := 4) (tg := 9) (e_gI (k0 := 0) (p1 := 1) cf_11 (e_aload_n (k0 := 0) d_History_takeBack_0 rfl rfl) (by decide) tw_548 d_History_takeBack_1) d_History_takeBack_4 rfl) (s_retZ (p1 := 8) (e_iconst d_History_takeBack_7 (by decide)) rfl d_History_takeBack_8) s_skip) (s_seq (sl1 := [(0, 1), (1, 1)]) (p1 := 31) (s_put (k0 := 2) (p1 := 10) (p2 := 28) cf_11 (e_aload_n (k0 := 0) d_History_takeBack_9 rfl rfl) (e_ite (pt := 17) (p1 := 23) (pf := 26) (c_if_leF (p1 := 14) (tg := 26) (e_gI (k0 := 2) (p1 := 11) cf_11 (e_aload_n (k0 := 0) d_History_takeBack_10 rfl rfl) (by decide) tw_551 d_History_takeBack_11) d_History_takeBack_14 rfl) (e_isub (p1 := 21) (p2 := 22) (e_gI (k0 := 2) (p1 := 18) cf_11 (e_aload_n (k0 := 0) d_History_takeBack_17 rfl rfl) (by decide) tw_551 d_History_takeBack_18) (e_iconst d_History_takeBack_21 (by decide)) d_History_takeBack_22) d_History_takeBack_23 rfl (e_bipush d_History_takeBack_26 (by decide))) (by decide) fk_i tw_551 (Or.inl rfl) d_History_takeBack_28) (s_seq (sl1 := [(0, 1), (1, 1)]) (p1 := 41) (s_fop (k0 := 0) (p1 := 32) (p2 := 37) cf_11 (e_aload_n (k0 := 0) d_History_takeBack_31 rfl rfl) d_History_takeBack_32 d_History_takeBack_33 (e_iconst d_History_takeBack_36 (by decide)) (op_isub d_History_takeBack_37) (by decide) rfl tw_548 tw_548 rfl d_History_takeBack_38) (s_seq (sl1 := [(0, 1), (1, 1)]) (p1 := 54) (s_call (p1 := 51) (a_cons (ι := Value.ref) (k0 := 1) (p1 := 42) (fun _ => rfl) (e_aload_n (k0 := 1) d_History_takeBack_41 rfl rfl) (a_cons (ι := Value.ref) (k0 := 1) (p1 := 51) (fun _ => rfl) (e_aald (p1 := 46) (p2 := 50) (e_gR (k0 := 1) (p1 := 43) cf_11 (e_aload_n (k0 := 0) d_History_takeBack_42 rfl rfl) (by decide) tw_550 d_History_takeBack_43) (e_gI (k0 := 2) (p1 := 47) cf_11 (e_aload_n (k0 := 0) d_History_takeBack_46 rfl rfl) (by decide) tw_551 d_History_takeBack_47) d_History_takeBack_50) a_nil)) (k_virt ok_Scene_become mf_Scene_become ⟨tw_1043, tw_1044⟩ rfl tw_1042 d_History_takeBack_51 (by decide) (by decide) (by decide))) (s_retZ (p1 := 55) (e_iconst d_History_takeBack_54 (by decide)) rfl d_History_takeBack_55))))))
/-! BlinkerCross$History.keep(ILBlinkerCross$Scene;)Z -/
abbrev y_History_keep : MethodName := ⟨"BlinkerCross$History", "keep", "(ILBlinkerCross$Scene;)Z"⟩
abbrev Y_History_keep : Yt := (prog_4_method_5_code, 3, "BlinkerCross$History", 2, (some .boolean), "keep")
theorem d_History_keep_0 : decode prog_4_method_5_code 0 = .ok (.iload_n 1, 1) := by decide +kernel
theorem d_History_keep_1 : decode prog_4_method_5_code 1 = .ok (.ifCond .lt 8, 3) := by decide +kernel
theorem d_History_keep_4 : decode prog_4_method_5_code 4 = .ok (.iload_n 1, 1) := by decide +kernel
theorem d_History_keep_5 : decode prog_4_method_5_code 5 = .ok (.iconst 3, 1) := by decide +kernel
theorem d_History_keep_6 : decode prog_4_method_5_code 6 = .ok (.if_icmp .lt 5, 3) := by decide +kernel
theorem d_History_keep_9 : decode prog_4_method_5_code 9 = .ok (.iconst 0, 1) := by decide +kernel
theorem d_History_keep_10 : decode prog_4_method_5_code 10 = .ok (.ireturn, 1) := by decide +kernel
theorem d_History_keep_11 : decode prog_4_method_5_code 11 = .ok (.aload_n 2, 1) := by decide +kernel
theorem d_History_keep_12 : decode prog_4_method_5_code 12 = .ok (.aload_n 0, 1) := by decide +kernel
theorem d_History_keep_13 : decode prog_4_method_5_code 13 = .ok (.getfield 16, 3) := by decide +kernel
theorem d_History_keep_16 : decode prog_4_method_5_code 16 = .ok (.iload_n 1, 1) := by decide +kernel
theorem d_History_keep_17 : decode prog_4_method_5_code 17 = .ok (.aaload, 1) := by decide +kernel
theorem d_History_keep_18 : decode prog_4_method_5_code 18 = .ok (.invokevirtual 30, 3) := by decide +kernel
theorem d_History_keep_21 : decode prog_4_method_5_code 21 = .ok (.aload_n 0, 1) := by decide +kernel
theorem d_History_keep_22 : decode prog_4_method_5_code 22 = .ok (.getfield 19, 3) := by decide +kernel
theorem d_History_keep_25 : decode prog_4_method_5_code 25 = .ok (.iload_n 1, 1) := by decide +kernel
theorem d_History_keep_26 : decode prog_4_method_5_code 26 = .ok (.iconst 1, 1) := by decide +kernel
theorem d_History_keep_27 : decode prog_4_method_5_code 27 = .ok (.bastore, 1) := by decide +kernel
theorem d_History_keep_28 : decode prog_4_method_5_code 28 = .ok (.iconst 1, 1) := by decide +kernel
theorem d_History_keep_29 : decode prog_4_method_5_code 29 = .ok (.ireturn, 1) := by decide +kernel
noncomputable def F_History_keep : Sm := sSeq (sIf (cOr (o1 (fun x => decide (x < 0)) (vI 1)) (o2 (fun x y => decide (x ≥ y)) (vI 1) (kI (ii 3)))) (sRetZ (kI (ii 0))) (sSkip)) (sSeq (sCall (mV 4 D_Scene_copyTo) [asV Value.ref (vR 2), asV Value.ref (aR (gR 11 3 (vR 0)) (vI 1))]) (sSeq (sAst 3 (gR 11 4 (vR 0)) (vI 1) (kI (ii 1))) (sRetZ (kI (ii 1)))))
theorem mf_History_keep : Mf y_History_keep prog_4_method_5_code 3 (some .boolean) 2 := ⟨tw_1292, tw_133, by decide +kernel⟩
noncomputable def D_History_keep : Dn := runS [1, 1, 1] F_History_keep
theorem ok_History_keep : MOK y_History_keep prog_4_method_5_code 3 (some .boolean) 2 0 0 D_History_keep := MOK.of (by decide) (by decide) (show SO Y_History_keep [(0, 1), (1, 1), (2, 1)] [(0, 1), (1, 1), (2, 1)] 0 30 (([], 0), ([], 0)) F_History_keep from
  (s_seq (sl1 := [(0, 1), (1, 1), (2, 1)]) (p1 := 11) (s_if (pt := 9) (pf := 11) (c_or (p1 := 4) (c_if_ltT (p1 := 1) (tg := 9) (e_iload_n (k0 := 1) d_History_keep_0 rfl rfl) d_History_keep_1 rfl) (c_icmp_ltF (p1 := 5) (p2 := 6) (tg := 11) (e_iload_n (k0 := 1) d_History_keep_4 rfl rfl) (e_iconst d_History_keep_5 (by decide)) d_History_keep_6 rfl)) (s_retZ (p1 := 10) (e_iconst d_History_keep_9 (by decide)) rfl d_History_keep_10) s_skip) (s_seq (sl1 := [(0, 1), (1, 1), (2, 1)]) (p1 := 21) (s_call (p1 := 18) (a_cons (ι := Value.ref) (k0 := 1) (p1 := 12) (fun _ => rfl) (e_aload_n (k0 := 2) d_History_keep_11 rfl rfl) (a_cons (ι := Value.ref) (k0 := 1) (p1 := 18) (fun _ => rfl) (e_aald (p1 := 16) (p2 := 17) (e_gR (k0 := 3) (p1 := 13) cf_11 (e_aload_n (k0 := 0) d_History_keep_12 rfl rfl) (by decide) tw_552 d_History_keep_13) (e_iload_n (k0 := 1) d_History_keep_16 rfl rfl) d_History_keep_17) a_nil)) (k_virt ok_Scene_copyTo mf_Scene_copyTo ⟨tw_989, tw_990⟩ rfl tw_988 d_History_keep_18 (by decide) (by decide) (by decide))) (s_seq (sl1 := [(0, 1), (1, 1), (2, 1)]) (p1 := 28) (s_ast (p1 := 25) (p2 := 26) (p3 := 27) (e_gR (k0 := 4) (p1 := 22) cf_11 (e_aload_n (k0 := 0) d_History_keep_21 rfl rfl) (by decide) tw_553 d_History_keep_22) (e_iload_n (k0 := 1) d_History_keep_25 rfl rfl) (e_iconst d_History_keep_26 (by decide)) (as_z d_History_keep_27)) (s_retZ (p1 := 29) (e_iconst d_History_keep_28 (by decide)) rfl d_History_keep_29)))))
/-! BlinkerCross$History.bringBack(ILBlinkerCross$Scene;)Z -/
abbrev y_History_bringBack : MethodName := ⟨"BlinkerCross$History", "bringBack", "(ILBlinkerCross$Scene;)Z"⟩
abbrev Y_History_bringBack : Yt := (prog_4_method_6_code, 3, "BlinkerCross$History", 4, (some .boolean), "bringBack")
theorem d_History_bringBack_0 : decode prog_4_method_6_code 0 = .ok (.iload_n 1, 1) := by decide +kernel
theorem d_History_bringBack_1 : decode prog_4_method_6_code 1 = .ok (.ifCond .lt 17, 3) := by decide +kernel
theorem d_History_bringBack_4 : decode prog_4_method_6_code 4 = .ok (.iload_n 1, 1) := by decide +kernel
theorem d_History_bringBack_5 : decode prog_4_method_6_code 5 = .ok (.iconst 3, 1) := by decide +kernel
theorem d_History_bringBack_6 : decode prog_4_method_6_code 6 = .ok (.if_icmp .ge 12, 3) := by decide +kernel
theorem d_History_bringBack_9 : decode prog_4_method_6_code 9 = .ok (.aload_n 0, 1) := by decide +kernel
theorem d_History_bringBack_10 : decode prog_4_method_6_code 10 = .ok (.getfield 19, 3) := by decide +kernel
theorem d_History_bringBack_13 : decode prog_4_method_6_code 13 = .ok (.iload_n 1, 1) := by decide +kernel
theorem d_History_bringBack_14 : decode prog_4_method_6_code 14 = .ok (.baload, 1) := by decide +kernel
theorem d_History_bringBack_15 : decode prog_4_method_6_code 15 = .ok (.ifCond .ne 5, 3) := by decide +kernel
theorem d_History_bringBack_18 : decode prog_4_method_6_code 18 = .ok (.iconst 0, 1) := by decide +kernel
theorem d_History_bringBack_19 : decode prog_4_method_6_code 19 = .ok (.ireturn, 1) := by decide +kernel
theorem d_History_bringBack_20 : decode prog_4_method_6_code 20 = .ok (.aload_n 2, 1) := by decide +kernel
theorem d_History_bringBack_21 : decode prog_4_method_6_code 21 = .ok (.aload_n 0, 1) := by decide +kernel
theorem d_History_bringBack_22 : decode prog_4_method_6_code 22 = .ok (.getfield 16, 3) := by decide +kernel
theorem d_History_bringBack_25 : decode prog_4_method_6_code 25 = .ok (.iload_n 1, 1) := by decide +kernel
theorem d_History_bringBack_26 : decode prog_4_method_6_code 26 = .ok (.aaload, 1) := by decide +kernel
theorem d_History_bringBack_27 : decode prog_4_method_6_code 27 = .ok (.invokevirtual 42, 3) := by decide +kernel
theorem d_History_bringBack_30 : decode prog_4_method_6_code 30 = .ok (.aload_n 0, 1) := by decide +kernel
theorem d_History_bringBack_31 : decode prog_4_method_6_code 31 = .ok (.iconst 0, 1) := by decide +kernel
theorem d_History_bringBack_32 : decode prog_4_method_6_code 32 = .ok (.putfield 23, 3) := by decide +kernel
theorem d_History_bringBack_35 : decode prog_4_method_6_code 35 = .ok (.iconst 1, 1) := by decide +kernel
theorem d_History_bringBack_36 : decode prog_4_method_6_code 36 = .ok (.ireturn, 1) := by decide +kernel
noncomputable def F_History_bringBack : Sm := sSeq (sIf (cOr (cOr (o1 (fun x => decide (x < 0)) (vI 1)) (o2 (fun x y => decide (x ≥ y)) (vI 1) (kI (ii 3)))) (cNot (o1 (fun x => decide (x ≠ 0)) (aI 3 (gR 11 4 (vR 0)) (vI 1))))) (sRetZ (kI (ii 0))) (sSkip)) (sSeq (sCall (mV 4 D_Scene_become) [asV Value.ref (vR 2), asV Value.ref (aR (gR 11 3 (vR 0)) (vI 1))]) (sSeq (sPut 11 0 (vR 0) (asV Value.int (kI (ii 0)))) (sRetZ (kI (ii 1)))))
theorem mf_History_bringBack : Mf y_History_bringBack prog_4_method_6_code 3 (some .boolean) 2 := ⟨tw_1300, tw_133, by decide +kernel⟩
noncomputable def D_History_bringBack : Dn := runS [1, 1, 1] F_History_bringBack
theorem ok_History_bringBack : MOK y_History_bringBack prog_4_method_6_code 3 (some .boolean) 4 0 0 D_History_bringBack := MOK.of (by decide) (by decide) (show SO Y_History_bringBack [(0, 1), (1, 1), (2, 1)] [(0, 1), (1, 1), (2, 1)] 0 37 (([], 0), ([], 0)) F_History_bringBack from
  (s_seq (sl1 := [(0, 1), (1, 1), (2, 1)]) (p1 := 20) (s_if (pt := 18) (pf := 20) (c_or (p1 := 9) (c_or (p1 := 4) (c_if_ltT (p1 := 1) (tg := 18) (e_iload_n (k0 := 1) d_History_bringBack_0 rfl rfl) d_History_bringBack_1 rfl) (c_icmp_geT (p1 := 5) (p2 := 6) (tg := 18) (e_iload_n (k0 := 1) d_History_bringBack_4 rfl rfl) (e_iconst d_History_bringBack_5 (by decide)) d_History_bringBack_6 rfl)) (c_not (c_if_neT (p1 := 15) (tg := 20) (e_zald (p1 := 13) (p2 := 14) (e_gR (k0 := 4) (p1 := 10) cf_11 (e_aload_n (k0 := 0) d_History_bringBack_9 rfl rfl) (by decide) tw_553 d_History_bringBack_10) (e_iload_n (k0 := 1) d_History_bringBack_13 rfl rfl) d_History_bringBack_14) d_History_bringBack_15 rfl))) (s_retZ (p1 := 19) (e_iconst d_History_bringBack_18 (by decide)) rfl d_History_bringBack_19) s_skip) (s_seq (sl1 := [(0, 1), (1, 1), (2, 1)]) (p1 := 30) (s_call (p1 := 27) (a_cons (ι := Value.ref) (k0 := 1) (p1 := 21) (fun _ => rfl) (e_aload_n (k0 := 2) d_History_bringBack_20 rfl rfl) (a_cons (ι := Value.ref) (k0 := 1) (p1 := 27) (fun _ => rfl) (e_aald (p1 := 25) (p2 := 26) (e_gR (k0 := 3) (p1 := 22) cf_11 (e_aload_n (k0 := 0) d_History_bringBack_21 rfl rfl) (by decide) tw_552 d_History_bringBack_22) (e_iload_n (k0 := 1) d_History_bringBack_25 rfl rfl) d_History_bringBack_26) a_nil)) (k_virt ok_Scene_become mf_Scene_become ⟨tw_1043, tw_1044⟩ rfl tw_1042 d_History_bringBack_27 (by decide) (by decide) (by decide))) (s_seq (sl1 := [(0, 1), (1, 1), (2, 1)]) (p1 := 35) (s_put (k0 := 0) (p1 := 31) (p2 := 32) cf_11 (e_aload_n (k0 := 0) d_History_bringBack_30 rfl rfl) (e_iconst d_History_bringBack_31 (by decide)) (by decide) fk_i tw_548 (Or.inl rfl) d_History_bringBack_32) (s_retZ (p1 := 36) (e_iconst d_History_bringBack_35 (by decide)) rfl d_History_bringBack_36)))))
/-! BlinkerCross$History.heldCount()I -/
abbrev y_History_heldCount : MethodName := ⟨"BlinkerCross$History", "heldCount", "()I"⟩
abbrev Y_History_heldCount : Yt := (prog_4_method_7_code, 3, "BlinkerCross$History", 0, (some .int), "heldCount")
theorem d_History_heldCount_0 : decode prog_4_method_7_code 0 = .ok (.iconst 0, 1) := by decide +kernel
theorem d_History_heldCount_1 : decode prog_4_method_7_code 1 = .ok (.istore_n 1, 1) := by decide +kernel
theorem d_History_heldCount_2 : decode prog_4_method_7_code 2 = .ok (.iconst 0, 1) := by decide +kernel
theorem d_History_heldCount_3 : decode prog_4_method_7_code 3 = .ok (.istore_n 2, 1) := by decide +kernel
theorem d_History_heldCount_4 : decode prog_4_method_7_code 4 = .ok (.iload_n 2, 1) := by decide +kernel
theorem d_History_heldCount_5 : decode prog_4_method_7_code 5 = .ok (.iconst 3, 1) := by decide +kernel
theorem d_History_heldCount_6 : decode prog_4_method_7_code 6 = .ok (.if_icmp .ge 26, 3) := by decide +kernel
theorem d_History_heldCount_9 : decode prog_4_method_7_code 9 = .ok (.iload_n 1, 1) := by decide +kernel
theorem d_History_heldCount_10 : decode prog_4_method_7_code 10 = .ok (.aload_n 0, 1) := by decide +kernel
theorem d_History_heldCount_11 : decode prog_4_method_7_code 11 = .ok (.getfield 19, 3) := by decide +kernel
theorem d_History_heldCount_14 : decode prog_4_method_7_code 14 = .ok (.iload_n 2, 1) := by decide +kernel
theorem d_History_heldCount_15 : decode prog_4_method_7_code 15 = .ok (.baload, 1) := by decide +kernel
theorem d_History_heldCount_16 : decode prog_4_method_7_code 16 = .ok (.ifCond .eq 7, 3) := by decide +kernel
theorem d_History_heldCount_19 : decode prog_4_method_7_code 19 = .ok (.iconst 1, 1) := by decide +kernel
theorem d_History_heldCount_20 : decode prog_4_method_7_code 20 = .ok (.goto 4, 3) := by decide +kernel
theorem d_History_heldCount_23 : decode prog_4_method_7_code 23 = .ok (.iconst 0, 1) := by decide +kernel
theorem d_History_heldCount_24 : decode prog_4_method_7_code 24 = .ok (.iadd, 1) := by decide +kernel
theorem d_History_heldCount_25 : decode prog_4_method_7_code 25 = .ok (.istore_n 1, 1) := by decide +kernel
theorem d_History_heldCount_26 : decode prog_4_method_7_code 26 = .ok (.iinc 2 1, 3) := by decide +kernel
theorem d_History_heldCount_29 : decode prog_4_method_7_code 29 = .ok (.goto (-25), 3) := by decide +kernel
theorem d_History_heldCount_32 : decode prog_4_method_7_code 32 = .ok (.iload_n 1, 1) := by decide +kernel
theorem d_History_heldCount_33 : decode prog_4_method_7_code 33 = .ok (.ireturn, 1) := by decide +kernel
noncomputable def Lc_History_heldCount_1 : Xp Bool := o2 (fun x y => decide (x < y)) (vI 2) (kI (ii 3))
noncomputable def Lb_History_heldCount_1 : Sm := sSet 1 (asV Value.int (o2 (fun x y => x + y) (vI 1) (iX (o1 (fun x => decide (x ≠ 0)) (aI 3 (gR 11 4 (vR 0)) (vI 2))) (kI (ii 1)) (kI (ii 0)))))
noncomputable def Lu_History_heldCount_1 : Sm := sInc 2 (ii 1)
noncomputable def F_History_heldCount : Sm := sSeq (sDecl (asV Value.int (kI (ii 0)))) (sSeq (sBlk 2 (sSeq (sDecl (asV Value.int (kI (ii 0)))) (sWh (Lc_History_heldCount_1) (Lb_History_heldCount_1) Lu_History_heldCount_1))) (sRet (asV Value.int (vI 1))))
theorem mf_History_heldCount : Mf y_History_heldCount prog_4_method_7_code 3 (some .int) 0 := ⟨tw_1331, tw_133, by decide +kernel⟩
noncomputable def D_History_heldCount : Dn := runS [1] F_History_heldCount
theorem ok_History_heldCount : MOK y_History_heldCount prog_4_method_7_code 3 (some .int) 0 0 0 D_History_heldCount := MOK.of (by decide) (by decide) (show SO Y_History_heldCount [(0, 1)] [(0, 1), (1, 1)] 0 34 (([], 0), ([], 0)) F_History_heldCount from
  (s_seq (sl1 := [(0, 1), (1, 1)]) (p1 := 2) (s_decl (p1 := 1) (e_iconst d_History_heldCount_0 (by decide)) (t_istore_n d_History_heldCount_1 rfl (by decide)) rfl) (s_seq (sl1 := [(0, 1), (1, 1)]) (p1 := 32) (s_blk (sl1 := [(0, 1), (1, 1), (2, 1)]) (s_seq (sl1 := [(0, 1), (1, 1), (2, 1)]) (p1 := 4) (s_decl (p1 := 3) (e_iconst d_History_heldCount_2 (by decide)) (t_istore_n d_History_heldCount_3 rfl (by decide)) rfl) (s_for (pt := 9) (pu := 26) (pf := 32) (pg := 0) (c_icmp_geF (p1 := 5) (p2 := 6) (tg := 32) (e_iload_n (k0 := 2) d_History_heldCount_4 rfl rfl) (e_iconst d_History_heldCount_5 (by decide)) d_History_heldCount_6 rfl) (s_set (k0 := 1) (p1 := 25) (e_iadd (p1 := 10) (p2 := 24) (e_iload_n (k0 := 1) d_History_heldCount_9 rfl rfl) (e_ite (pt := 19) (p1 := 20) (pf := 23) (c_if_eqF (p1 := 16) (tg := 23) (e_zald (p1 := 14) (p2 := 15) (e_gR (k0 := 4) (p1 := 11) cf_11 (e_aload_n (k0 := 0) d_History_heldCount_10 rfl rfl) (by decide) tw_553 d_History_heldCount_11) (e_iload_n (k0 := 2) d_History_heldCount_14 rfl rfl) d_History_heldCount_15) d_History_heldCount_16 rfl) (e_iconst d_History_heldCount_19 (by decide)) d_History_heldCount_20 rfl (e_iconst d_History_heldCount_23 (by decide))) d_History_heldCount_24) (t_istore_n d_History_heldCount_25 rfl (by decide)) rfl rfl) (s_goto (p1 := 29) (s_inc (k0 := 2) d_History_heldCount_26 rfl rfl (Nat.le_of_ble_eq_true rfl) rfl) d_History_heldCount_29 rfl))) rfl) (s_ret (p1 := 33) (e_iload_n (k0 := 1) d_History_heldCount_32 rfl rfl) rfl d_History_heldCount_33))))

/-! Methods: bytes, denotations, that the bytes do so (written by wip/whole/jgen.py). -/
/-! BlinkerCross$Sharing.withRoad(III)I -/
abbrev y_Sharing_withRoad : MethodName := ⟨"BlinkerCross$Sharing", "withRoad", "(III)I"⟩
abbrev Y_Sharing_withRoad : Yt := (prog_9_method_6_code, 4, "BlinkerCross$Sharing", 1, (some .int), "withRoad")
theorem d_Sharing_withRoad_0 : decode prog_9_method_6_code 0 = .ok (.aload_n 0, 1) := by decide +kernel
theorem d_Sharing_withRoad_1 : decode prog_9_method_6_code 1 = .ok (.getfield 24, 3) := by decide +kernel
theorem d_Sharing_withRoad_4 : decode prog_9_method_6_code 4 = .ok (.iload_n 1, 1) := by decide +kernel
theorem d_Sharing_withRoad_5 : decode prog_9_method_6_code 5 = .ok (.iload_n 2, 1) := by decide +kernel
theorem d_Sharing_withRoad_6 : decode prog_9_method_6_code 6 = .ok (.invokevirtual 53, 3) := by decide +kernel
theorem d_Sharing_withRoad_9 : decode prog_9_method_6_code 9 = .ok (.aload_n 0, 1) := by decide +kernel
theorem d_Sharing_withRoad_10 : decode prog_9_method_6_code 10 = .ok (.getfield 17, 3) := by decide +kernel
theorem d_Sharing_withRoad_13 : decode prog_9_method_6_code 13 = .ok (.iload_n 1, 1) := by decide +kernel
theorem d_Sharing_withRoad_14 : decode prog_9_method_6_code 14 = .ok (.iconst 1, 1) := by decide +kernel
theorem d_Sharing_withRoad_15 : decode prog_9_method_6_code 15 = .ok (.iadd, 1) := by decide +kernel
theorem d_Sharing_withRoad_16 : decode prog_9_method_6_code 16 = .ok (.aaload, 1) := by decide +kernel
theorem d_Sharing_withRoad_17 : decode prog_9_method_6_code 17 = .ok (.iload_n 3, 1) := by decide +kernel
theorem d_Sharing_withRoad_18 : decode prog_9_method_6_code 18 = .ok (.iconst 1, 1) := by decide +kernel
theorem d_Sharing_withRoad_19 : decode prog_9_method_6_code 19 = .ok (.iload_n 2, 1) := by decide +kernel
theorem d_Sharing_withRoad_20 : decode prog_9_method_6_code 20 = .ok (.ishl, 1) := by decide +kernel
theorem d_Sharing_withRoad_21 : decode prog_9_method_6_code 21 = .ok (.ior, 1) := by decide +kernel
theorem d_Sharing_withRoad_22 : decode prog_9_method_6_code 22 = .ok (.iaload, 1) := by decide +kernel
theorem d_Sharing_withRoad_23 : decode prog_9_method_6_code 23 = .ok (.iadd, 1) := by decide +kernel
theorem d_Sharing_withRoad_24 : decode prog_9_method_6_code 24 = .ok (.ireturn, 1) := by decide +kernel
noncomputable def F_Sharing_withRoad : Sm := sRet (asV Value.int (o2 (fun x y => x + y) (cI (mV 4 D_Scene_wantOf) [asV Value.ref (gR 9 2 (vR 0)), asV Value.int (vI 1), asV Value.int (vI 2)]) (aI 0 (aR (gR 9 3 (vR 0)) (o2 (fun x y => x + y) (vI 1) (kI (ii 1)))) (o2 (fun x y => x ||| y) (vI 3) (o2 (fun (x y : Int32) => x <<< (y &&& 31)) (kI (ii 1)) (vI 2))))))
theorem mf_Sharing_withRoad : Mf y_Sharing_withRoad prog_9_method_6_code 4 (some .int) 3 := ⟨tw_1160, tw_131, by decide +kernel⟩
noncomputable def D_Sharing_withRoad : Dn := runS [1, 1, 1, 1] F_Sharing_withRoad
theorem ok_Sharing_withRoad : MOK y_Sharing_withRoad prog_9_method_6_code 4 (some .int) 1 0 0 D_Sharing_withRoad := MOK.of (by decide) (by decide) (show SO Y_Sharing_withRoad [(0, 1), (1, 1), (2, 1), (3, 1)] [(0, 1), (1, 1), (2, 1), (3, 1)] 0 25 (([], 0), ([], 0)) F_Sharing_withRoad from
  (s_ret (p1 := 24) (e_iadd (p1 := 9) (p2 := 23) (e_cI (p1 := 6) (a_cons (ι := Value.ref) (k0 := 1) (p1 := 4) (fun _ => rfl) (e_gR (k0 := 2) (p1 := 1) cf_9 (e_aload_n (k0 := 0) d_Sharing_withRoad_0 rfl rfl) (by decide) tw_500 d_Sharing_withRoad_1) (a_cons (ι := Value.int) (k0 := 1) (p1 := 5) (fun _ => rfl) (e_iload_n (k0 := 1) d_Sharing_withRoad_4 rfl rfl) (a_cons (ι := Value.int) (k0 := 1) (p1 := 6) (fun _ => rfl) (e_iload_n (k0 := 2) d_Sharing_withRoad_5 rfl rfl) a_nil))) (k_virt ok_Scene_wantOf mf_Scene_wantOf ⟨tw_873, tw_874⟩ rfl tw_1161 d_Sharing_withRoad_6 (by decide) (by decide) (by decide))) (e_iald (p1 := 17) (p2 := 22) (e_aald (p1 := 13) (p2 := 16) (e_gR (k0 := 3) (p1 := 10) cf_9 (e_aload_n (k0 := 0) d_Sharing_withRoad_9 rfl rfl) (by decide) tw_501 d_Sharing_withRoad_10) (e_iadd (p1 := 14) (p2 := 15) (e_iload_n (k0 := 1) d_Sharing_withRoad_13 rfl rfl) (e_iconst d_Sharing_withRoad_14 (by decide)) d_Sharing_withRoad_15) d_Sharing_withRoad_16) (e_ior (p1 := 18) (p2 := 21) (e_iload_n (k0 := 3) d_Sharing_withRoad_17 rfl rfl) (e_ishl (p1 := 19) (p2 := 20) (e_iconst d_Sharing_withRoad_18 (by decide)) (e_iload_n (k0 := 2) d_Sharing_withRoad_19 rfl rfl) d_Sharing_withRoad_20) d_Sharing_withRoad_21) d_Sharing_withRoad_22) d_Sharing_withRoad_23) rfl d_Sharing_withRoad_24))
/-! BlinkerCross$Sharing.mostFor(II)I -/
abbrev y_Sharing_mostFor : MethodName := ⟨"BlinkerCross$Sharing", "mostFor", "(II)I"⟩
abbrev Y_Sharing_mostFor : Yt := (prog_9_method_4_code, 5, "BlinkerCross$Sharing", 2, (some .int), "mostFor")
theorem d_Sharing_mostFor_0 : decode prog_9_method_4_code 0 = .ok (.aload_n 0, 1) := by decide +kernel
theorem d_Sharing_mostFor_1 : decode prog_9_method_4_code 1 = .ok (.getfield 17, 3) := by decide +kernel
theorem d_Sharing_mostFor_4 : decode prog_9_method_4_code 4 = .ok (.iload_n 1, 1) := by decide +kernel
theorem d_Sharing_mostFor_5 : decode prog_9_method_4_code 5 = .ok (.iconst 1, 1) := by decide +kernel
theorem d_Sharing_mostFor_6 : decode prog_9_method_4_code 6 = .ok (.iadd, 1) := by decide +kernel
theorem d_Sharing_mostFor_7 : decode prog_9_method_4_code 7 = .ok (.aaload, 1) := by decide +kernel
theorem d_Sharing_mostFor_8 : decode prog_9_method_4_code 8 = .ok (.iload_n 2, 1) := by decide +kernel
theorem d_Sharing_mostFor_9 : decode prog_9_method_4_code 9 = .ok (.iaload, 1) := by decide +kernel
theorem d_Sharing_mostFor_10 : decode prog_9_method_4_code 10 = .ok (.istore_n 3, 1) := by decide +kernel
theorem d_Sharing_mostFor_11 : decode prog_9_method_4_code 11 = .ok (.iconst 0, 1) := by decide +kernel
theorem d_Sharing_mostFor_12 : decode prog_9_method_4_code 12 = .ok (.istore 4, 2) := by decide +kernel
theorem d_Sharing_mostFor_14 : decode prog_9_method_4_code 14 = .ok (.iload 4, 2) := by decide +kernel
theorem d_Sharing_mostFor_16 : decode prog_9_method_4_code 16 = .ok (.aload_n 0, 1) := by decide +kernel
theorem d_Sharing_mostFor_17 : decode prog_9_method_4_code 17 = .ok (.getfield 20, 3) := by decide +kernel
theorem d_Sharing_mostFor_20 : decode prog_9_method_4_code 20 = .ok (.getfield 28, 3) := by decide +kernel
theorem d_Sharing_mostFor_23 : decode prog_9_method_4_code 23 = .ok (.if_icmp .ge 31, 3) := by decide +kernel
theorem d_Sharing_mostFor_26 : decode prog_9_method_4_code 26 = .ok (.iload_n 2, 1) := by decide +kernel
theorem d_Sharing_mostFor_27 : decode prog_9_method_4_code 27 = .ok (.iload 4, 2) := by decide +kernel
theorem d_Sharing_mostFor_29 : decode prog_9_method_4_code 29 = .ok (.ishr, 1) := by decide +kernel
theorem d_Sharing_mostFor_30 : decode prog_9_method_4_code 30 = .ok (.iconst 1, 1) := by decide +kernel
theorem d_Sharing_mostFor_31 : decode prog_9_method_4_code 31 = .ok (.iand, 1) := by decide +kernel
theorem d_Sharing_mostFor_32 : decode prog_9_method_4_code 32 = .ok (.ifCond .ne 16, 3) := by decide +kernel
theorem d_Sharing_mostFor_35 : decode prog_9_method_4_code 35 = .ok (.iload_n 3, 1) := by decide +kernel
theorem d_Sharing_mostFor_36 : decode prog_9_method_4_code 36 = .ok (.aload_n 0, 1) := by decide +kernel
theorem d_Sharing_mostFor_37 : decode prog_9_method_4_code 37 = .ok (.iload_n 1, 1) := by decide +kernel
theorem d_Sharing_mostFor_38 : decode prog_9_method_4_code 38 = .ok (.iload 4, 2) := by decide +kernel
theorem d_Sharing_mostFor_40 : decode prog_9_method_4_code 40 = .ok (.iload_n 2, 1) := by decide +kernel
theorem d_Sharing_mostFor_41 : decode prog_9_method_4_code 41 = .ok (.invokevirtual 44, 3) := by decide +kernel
theorem d_Sharing_mostFor_44 : decode prog_9_method_4_code 44 = .ok (.invokestatic 48, 3) := by decide +kernel
theorem d_Sharing_mostFor_47 : decode prog_9_method_4_code 47 = .ok (.istore_n 3, 1) := by decide +kernel
theorem d_Sharing_mostFor_48 : decode prog_9_method_4_code 48 = .ok (.iinc 4 1, 3) := by decide +kernel
theorem d_Sharing_mostFor_51 : decode prog_9_method_4_code 51 = .ok (.goto (-37), 3) := by decide +kernel
theorem d_Sharing_mostFor_54 : decode prog_9_method_4_code 54 = .ok (.iload_n 3, 1) := by decide +kernel
theorem d_Sharing_mostFor_55 : decode prog_9_method_4_code 55 = .ok (.ireturn, 1) := by decide +kernel
noncomputable def Lc_Sharing_mostFor_1 : Xp Bool := o2 (fun x y => decide (x < y)) (vI 4) (gI 2 0 (gR 9 1 (vR 0)))
noncomputable def Lb_Sharing_mostFor_1 : Sm := sIf (o1 (fun x => decide (x = 0)) (o2 (fun x y => x &&& y) (o2 (fun (x y : Int32) => x >>> (y &&& 31)) (vI 2) (vI 4)) (kI (ii 1)))) (sSet 3 (asV Value.int (o2 (fun x y => if x < y then y else x) (vI 3) (cI (mV 9 D_Sharing_withRoad) [asV Value.ref (vR 0), asV Value.int (vI 1), asV Value.int (vI 4), asV Value.int (vI 2)])))) (sSkip)
noncomputable def Lu_Sharing_mostFor_1 : Sm := sInc 4 (ii 1)
noncomputable def F_Sharing_mostFor : Sm := sSeq (sDecl (asV Value.int (aI 0 (aR (gR 9 3 (vR 0)) (o2 (fun x y => x + y) (vI 1) (kI (ii 1)))) (vI 2)))) (sSeq (sBlk 4 (sSeq (sDecl (asV Value.int (kI (ii 0)))) (sWh (Lc_Sharing_mostFor_1) (Lb_Sharing_mostFor_1) Lu_Sharing_mostFor_1))) (sRet (asV Value.int (vI 3))))
theorem mf_Sharing_mostFor : Mf y_Sharing_mostFor prog_9_method_4_code 5 (some .int) 2 := ⟨tw_1156, tw_131, by decide +kernel⟩
noncomputable def D_Sharing_mostFor : Dn := runS [1, 1, 1] F_Sharing_mostFor
theorem ok_Sharing_mostFor : MOK y_Sharing_mostFor prog_9_method_4_code 5 (some .int) 2 0 0 D_Sharing_mostFor := MOK.of (by decide) (by decide) (show SO Y_Sharing_mostFor [(0, 1), (1, 1), (2, 1)] [(0, 1), (1, 1), (2, 1), (3, 1)] 0 56 (([], 0), ([], 0)) F_Sharing_mostFor from
  (s_seq (sl1 := [(0, 1), (1, 1), (2, 1), (3, 1)]) (p1 := 11) (s_decl (p1 := 10) (e_iald (p1 := 8) (p2 := 9) (e_aald (p1 := 4) (p2 := 7) (e_gR (k0 := 3) (p1 := 1) cf_9 (e_aload_n (k0 := 0) d_Sharing_mostFor_0 rfl rfl) (by decide) tw_501 d_Sharing_mostFor_1) (e_iadd (p1 := 5) (p2 := 6) (e_iload_n (k0 := 1) d_Sharing_mostFor_4 rfl rfl) (e_iconst d_Sharing_mostFor_5 (by decide)) d_Sharing_mostFor_6) d_Sharing_mostFor_7) (e_iload_n (k0 := 2) d_Sharing_mostFor_8 rfl rfl) d_Sharing_mostFor_9) (t_istore_n d_Sharing_mostFor_10 rfl (by decide)) rfl) (s_seq (sl1 := [(0, 1), (1, 1), (2, 1), (3, 1)]) (p1 := 54) (s_blk (sl1 := [(0, 1), (1, 1), (2, 1), (3, 1), (4, 1)]) (s_seq (sl1 := [(0, 1), (1, 1), (2, 1), (3, 1), (4, 1)]) (p1 := 14) (s_decl (p1 := 12) (e_iconst d_Sharing_mostFor_11 (by decide)) (t_istore d_Sharing_mostFor_12 (by decide)) rfl) (s_for (pt := 26) (pu := 48) (pf := 54) (pg := 0) (c_icmp_geF (p1 := 16) (p2 := 23) (tg := 54) (e_iload (k0 := 4) d_Sharing_mostFor_14 rfl) (e_gI (k0 := 0) (p1 := 20) cf_2 (e_gR (k0 := 1) (p1 := 17) cf_9 (e_aload_n (k0 := 0) d_Sharing_mostFor_16 rfl rfl) (by decide) tw_499 d_Sharing_mostFor_17) (by decide) tw_197 d_Sharing_mostFor_20) d_Sharing_mostFor_23 rfl) (s_if (pt := 35) (pf := 48) (c_if_neF (p1 := 32) (tg := 48) (e_iand (p1 := 30) (p2 := 31) (e_ishr (p1 := 27) (p2 := 29) (e_iload_n (k0 := 2) d_Sharing_mostFor_26 rfl rfl) (e_iload (k0 := 4) d_Sharing_mostFor_27 rfl) d_Sharing_mostFor_29) (e_iconst d_Sharing_mostFor_30 (by decide)) d_Sharing_mostFor_31) d_Sharing_mostFor_32 rfl) (s_set (k0 := 3) (p1 := 47) (e_max (p1 := 36) (p2 := 44) (e_iload_n (k0 := 3) d_Sharing_mostFor_35 rfl rfl) (e_cI (p1 := 41) (a_cons (ι := Value.ref) (k0 := 1) (p1 := 37) (fun _ => rfl) (e_aload_n (k0 := 0) d_Sharing_mostFor_36 rfl rfl) (a_cons (ι := Value.int) (k0 := 1) (p1 := 38) (fun _ => rfl) (e_iload_n (k0 := 1) d_Sharing_mostFor_37 rfl rfl) (a_cons (ι := Value.int) (k0 := 1) (p1 := 40) (fun _ => rfl) (e_iload (k0 := 4) d_Sharing_mostFor_38 rfl) (a_cons (ι := Value.int) (k0 := 1) (p1 := 41) (fun _ => rfl) (e_iload_n (k0 := 2) d_Sharing_mostFor_40 rfl rfl) a_nil)))) (k_virt ok_Sharing_withRoad mf_Sharing_withRoad ⟨tw_1159, tw_41⟩ rfl tw_1157 d_Sharing_mostFor_41 (by decide) (by decide) (by decide))) ⟨tw_1162, tw_720, tw_139, tw_721⟩ d_Sharing_mostFor_44 (by decide) (by decide)) (t_istore_n d_Sharing_mostFor_47 rfl (by decide)) rfl rfl) s_skip) (s_goto (p1 := 51) (s_inc (k0 := 4) d_Sharing_mostFor_48 rfl rfl (Nat.le_of_ble_eq_true rfl) rfl) d_Sharing_mostFor_51 rfl))) rfl) (s_ret (p1 := 55) (e_iload_n (k0 := 3) d_Sharing_mostFor_54 rfl rfl) rfl d_Sharing_mostFor_55))))
/-! BlinkerCross$Sharing.shareOf(II)I -/
abbrev y_Sharing_shareOf : MethodName := ⟨"BlinkerCross$Sharing", "shareOf", "(II)I"⟩
abbrev Y_Sharing_shareOf : Yt := (prog_9_method_5_code, 4, "BlinkerCross$Sharing", 2, (some .int), "shareOf")
theorem d_Sharing_shareOf_0 : decode prog_9_method_5_code 0 = .ok (.aload_n 0, 1) := by decide +kernel
theorem d_Sharing_shareOf_1 : decode prog_9_method_5_code 1 = .ok (.getfield 17, 3) := by decide +kernel
theorem d_Sharing_shareOf_4 : decode prog_9_method_5_code 4 = .ok (.iload_n 1, 1) := by decide +kernel
theorem d_Sharing_shareOf_5 : decode prog_9_method_5_code 5 = .ok (.iconst 1, 1) := by decide +kernel
theorem d_Sharing_shareOf_6 : decode prog_9_method_5_code 6 = .ok (.iadd, 1) := by decide +kernel
theorem d_Sharing_shareOf_7 : decode prog_9_method_5_code 7 = .ok (.aaload, 1) := by decide +kernel
theorem d_Sharing_shareOf_8 : decode prog_9_method_5_code 8 = .ok (.iload_n 2, 1) := by decide +kernel
theorem d_Sharing_shareOf_9 : decode prog_9_method_5_code 9 = .ok (.iaload, 1) := by decide +kernel
theorem d_Sharing_shareOf_10 : decode prog_9_method_5_code 10 = .ok (.aload_n 0, 1) := by decide +kernel
theorem d_Sharing_shareOf_11 : decode prog_9_method_5_code 11 = .ok (.getfield 17, 3) := by decide +kernel
theorem d_Sharing_shareOf_14 : decode prog_9_method_5_code 14 = .ok (.iload_n 1, 1) := by decide +kernel
theorem d_Sharing_shareOf_15 : decode prog_9_method_5_code 15 = .ok (.aaload, 1) := by decide +kernel
theorem d_Sharing_shareOf_16 : decode prog_9_method_5_code 16 = .ok (.iload_n 2, 1) := by decide +kernel
theorem d_Sharing_shareOf_17 : decode prog_9_method_5_code 17 = .ok (.iaload, 1) := by decide +kernel
theorem d_Sharing_shareOf_18 : decode prog_9_method_5_code 18 = .ok (.if_icmp .ne 6, 3) := by decide +kernel
theorem d_Sharing_shareOf_21 : decode prog_9_method_5_code 21 = .ok (.bipush (-2), 2) := by decide +kernel
theorem d_Sharing_shareOf_23 : decode prog_9_method_5_code 23 = .ok (.ireturn, 1) := by decide +kernel
theorem d_Sharing_shareOf_24 : decode prog_9_method_5_code 24 = .ok (.iconst 0, 1) := by decide +kernel
theorem d_Sharing_shareOf_25 : decode prog_9_method_5_code 25 = .ok (.istore_n 3, 1) := by decide +kernel
theorem d_Sharing_shareOf_26 : decode prog_9_method_5_code 26 = .ok (.iload_n 3, 1) := by decide +kernel
theorem d_Sharing_shareOf_27 : decode prog_9_method_5_code 27 = .ok (.aload_n 0, 1) := by decide +kernel
theorem d_Sharing_shareOf_28 : decode prog_9_method_5_code 28 = .ok (.getfield 20, 3) := by decide +kernel
theorem d_Sharing_shareOf_31 : decode prog_9_method_5_code 31 = .ok (.getfield 28, 3) := by decide +kernel
theorem d_Sharing_shareOf_34 : decode prog_9_method_5_code 34 = .ok (.if_icmp .ge 37, 3) := by decide +kernel
theorem d_Sharing_shareOf_37 : decode prog_9_method_5_code 37 = .ok (.iload_n 2, 1) := by decide +kernel
theorem d_Sharing_shareOf_38 : decode prog_9_method_5_code 38 = .ok (.iload_n 3, 1) := by decide +kernel
theorem d_Sharing_shareOf_39 : decode prog_9_method_5_code 39 = .ok (.ishr, 1) := by decide +kernel
theorem d_Sharing_shareOf_40 : decode prog_9_method_5_code 40 = .ok (.iconst 1, 1) := by decide +kernel
theorem d_Sharing_shareOf_41 : decode prog_9_method_5_code 41 = .ok (.iand, 1) := by decide +kernel
theorem d_Sharing_shareOf_42 : decode prog_9_method_5_code 42 = .ok (.ifCond .ne 23, 3) := by decide +kernel
theorem d_Sharing_shareOf_45 : decode prog_9_method_5_code 45 = .ok (.aload_n 0, 1) := by decide +kernel
theorem d_Sharing_shareOf_46 : decode prog_9_method_5_code 46 = .ok (.iload_n 1, 1) := by decide +kernel
theorem d_Sharing_shareOf_47 : decode prog_9_method_5_code 47 = .ok (.iload_n 3, 1) := by decide +kernel
theorem d_Sharing_shareOf_48 : decode prog_9_method_5_code 48 = .ok (.iload_n 2, 1) := by decide +kernel
theorem d_Sharing_shareOf_49 : decode prog_9_method_5_code 49 = .ok (.invokevirtual 44, 3) := by decide +kernel
theorem d_Sharing_shareOf_52 : decode prog_9_method_5_code 52 = .ok (.aload_n 0, 1) := by decide +kernel
theorem d_Sharing_shareOf_53 : decode prog_9_method_5_code 53 = .ok (.getfield 17, 3) := by decide +kernel
theorem d_Sharing_shareOf_56 : decode prog_9_method_5_code 56 = .ok (.iload_n 1, 1) := by decide +kernel
theorem d_Sharing_shareOf_57 : decode prog_9_method_5_code 57 = .ok (.aaload, 1) := by decide +kernel
theorem d_Sharing_shareOf_58 : decode prog_9_method_5_code 58 = .ok (.iload_n 2, 1) := by decide +kernel
theorem d_Sharing_shareOf_59 : decode prog_9_method_5_code 59 = .ok (.iaload, 1) := by decide +kernel
theorem d_Sharing_shareOf_60 : decode prog_9_method_5_code 60 = .ok (.if_icmp .ne 5, 3) := by decide +kernel
theorem d_Sharing_shareOf_63 : decode prog_9_method_5_code 63 = .ok (.iload_n 3, 1) := by decide +kernel
theorem d_Sharing_shareOf_64 : decode prog_9_method_5_code 64 = .ok (.ireturn, 1) := by decide +kernel
theorem d_Sharing_shareOf_65 : decode prog_9_method_5_code 65 = .ok (.iinc 3 1, 3) := by decide +kernel
theorem d_Sharing_shareOf_68 : decode prog_9_method_5_code 68 = .ok (.goto (-42), 3) := by decide +kernel
theorem d_Sharing_shareOf_71 : decode prog_9_method_5_code 71 = .ok (.bipush (-2), 2) := by decide +kernel
theorem d_Sharing_shareOf_73 : decode prog_9_method_5_code 73 = .ok (.ireturn, 1) := by decide +kernel
noncomputable def Lc_Sharing_shareOf_1 : Xp Bool := o2 (fun x y => decide (x < y)) (vI 3) (gI 2 0 (gR 9 1 (vR 0)))
noncomputable def Lb_Sharing_shareOf_1 : Sm := sIf (cAnd (o1 (fun x => decide (x = 0)) (o2 (fun x y => x &&& y) (o2 (fun (x y : Int32) => x >>> (y &&& 31)) (vI 2) (vI 3)) (kI (ii 1)))) (o2 (fun x y => decide (x = y)) (cI (mV 9 D_Sharing_withRoad) [asV Value.ref (vR 0), asV Value.int (vI 1), asV Value.int (vI 3), asV Value.int (vI 2)]) (aI 0 (aR (gR 9 3 (vR 0)) (vI 1)) (vI 2)))) (sRet (asV Value.int (vI 3))) (sSkip)
noncomputable def Lu_Sharing_shareOf_1 : Sm := sInc 3 (ii 1)
noncomputable def F_Sharing_shareOf : Sm := sSeq (sIf (o2 (fun x y => decide (x = y)) (aI 0 (aR (gR 9 3 (vR 0)) (o2 (fun x y => x + y) (vI 1) (kI (ii 1)))) (vI 2)) (aI 0 (aR (gR 9 3 (vR 0)) (vI 1)) (vI 2))) (sRet (asV Value.int (kI (ii (-2))))) (sSkip)) (sSeq (sBlk 3 (sSeq (sDecl (asV Value.int (kI (ii 0)))) (sWh (Lc_Sharing_shareOf_1) (Lb_Sharing_shareOf_1) Lu_Sharing_shareOf_1))) (sRet (asV Value.int (kI (ii (-2))))))
theorem mf_Sharing_shareOf : Mf y_Sharing_shareOf prog_9_method_5_code 4 (some .int) 2 := ⟨tw_1166, tw_131, by decide +kernel⟩
noncomputable def D_Sharing_shareOf : Dn := runS [1, 1, 1] F_Sharing_shareOf
theorem ok_Sharing_shareOf : MOK y_Sharing_shareOf prog_9_method_5_code 4 (some .int) 2 0 0 D_Sharing_shareOf := MOK.of (by decide) (by decide) (show SO Y_Sharing_shareOf [(0, 1), (1, 1), (2, 1)] [(0, 1), (1, 1), (2, 1)] 0 74 (([], 0), ([], 0)) F_Sharing_shareOf from
  (s_seq (sl1 := [(0, 1), (1, 1), (2, 1)]) (p1 := 24) (s_if (pt := 21) (pf := 24) (c_icmp_neF (p1 := 10) (p2 := 18) (tg := 24) (e_iald (p1 := 8) (p2 := 9) (e_aald (p1 := 4) (p2 := 7) (e_gR (k0 := 3) (p1 := 1) cf_9 (e_aload_n (k0 := 0) d_Sharing_shareOf_0 rfl rfl) (by decide) tw_501 d_Sharing_shareOf_1) (e_iadd (p1 := 5) (p2 := 6) (e_iload_n (k0 := 1) d_Sharing_shareOf_4 rfl rfl) (e_iconst d_Sharing_shareOf_5 (by decide)) d_Sharing_shareOf_6) d_Sharing_shareOf_7) (e_iload_n (k0 := 2) d_Sharing_shareOf_8 rfl rfl) d_Sharing_shareOf_9) (e_iald (p1 := 16) (p2 := 17) (e_aald (p1 := 14) (p2 := 15) (e_gR (k0 := 3) (p1 := 11) cf_9 (e_aload_n (k0 := 0) d_Sharing_shareOf_10 rfl rfl) (by decide) tw_501 d_Sharing_shareOf_11) (e_iload_n (k0 := 1) d_Sharing_shareOf_14 rfl rfl) d_Sharing_shareOf_15) (e_iload_n (k0 := 2) d_Sharing_shareOf_16 rfl rfl) d_Sharing_shareOf_17) d_Sharing_shareOf_18 rfl) (s_ret (p1 := 23) (e_bipush d_Sharing_shareOf_21 (by decide)) rfl d_Sharing_shareOf_23) s_skip) (s_seq (sl1 := [(0, 1), (1, 1), (2, 1)]) (p1 := 71) (s_blk (sl1 := [(0, 1), (1, 1), (2, 1), (3, 1)]) (s_seq (sl1 := [(0, 1), (1, 1), (2, 1), (3, 1)]) (p1 := 26) (s_decl (p1 := 25) (e_iconst d_Sharing_shareOf_24 (by decide)) (t_istore_n d_Sharing_shareOf_25 rfl (by decide)) rfl) (s_for (pt := 37) (pu := 65) (pf := 71) (pg := 0) (c_icmp_geF (p1 := 27) (p2 := 34) (tg := 71) (e_iload_n (k0 := 3) d_Sharing_shareOf_26 rfl rfl) (e_gI (k0 := 0) (p1 := 31) cf_2 (e_gR (k0 := 1) (p1 := 28) cf_9 (e_aload_n (k0 := 0) d_Sharing_shareOf_27 rfl rfl) (by decide) tw_499 d_Sharing_shareOf_28) (by decide) tw_197 d_Sharing_shareOf_31) d_Sharing_shareOf_34 rfl) (s_if (pt := 63) (pf := 65) (c_and (p1 := 45) (c_if_neF (p1 := 42) (tg := 65) (e_iand (p1 := 40) (p2 := 41) (e_ishr (p1 := 38) (p2 := 39) (e_iload_n (k0 := 2) d_Sharing_shareOf_37 rfl rfl) (e_iload_n (k0 := 3) d_Sharing_shareOf_38 rfl rfl) d_Sharing_shareOf_39) (e_iconst d_Sharing_shareOf_40 (by decide)) d_Sharing_shareOf_41) d_Sharing_shareOf_42 rfl) (c_icmp_neF (p1 := 52) (p2 := 60) (tg := 65) (e_cI (p1 := 49) (a_cons (ι := Value.ref) (k0 := 1) (p1 := 46) (fun _ => rfl) (e_aload_n (k0 := 0) d_Sharing_shareOf_45 rfl rfl) (a_cons (ι := Value.int) (k0 := 1) (p1 := 47) (fun _ => rfl) (e_iload_n (k0 := 1) d_Sharing_shareOf_46 rfl rfl) (a_cons (ι := Value.int) (k0 := 1) (p1 := 48) (fun _ => rfl) (e_iload_n (k0 := 3) d_Sharing_shareOf_47 rfl rfl) (a_cons (ι := Value.int) (k0 := 1) (p1 := 49) (fun _ => rfl) (e_iload_n (k0 := 2) d_Sharing_shareOf_48 rfl rfl) a_nil)))) (k_virt ok_Sharing_withRoad mf_Sharing_withRoad ⟨tw_1159, tw_41⟩ rfl tw_1157 d_Sharing_shareOf_49 (by decide) (by decide) (by decide))) (e_iald (p1 := 58) (p2 := 59) (e_aald (p1 := 56) (p2 := 57) (e_gR (k0 := 3) (p1 := 53) cf_9 (e_aload_n (k0 := 0) d_Sharing_shareOf_52 rfl rfl) (by decide) tw_501 d_Sharing_shareOf_53) (e_iload_n (k0 := 1) d_Sharing_shareOf_56 rfl rfl) d_Sharing_shareOf_57) (e_iload_n (k0 := 2) d_Sharing_shareOf_58 rfl rfl) d_Sharing_shareOf_59) d_Sharing_shareOf_60 rfl)) (s_ret (p1 := 64) (e_iload_n (k0 := 3) d_Sharing_shareOf_63 rfl rfl) rfl d_Sharing_shareOf_64) s_skip) (s_goto (p1 := 68) (s_inc (k0 := 3) d_Sharing_shareOf_65 rfl rfl (Nat.le_of_ble_eq_true rfl) rfl) d_Sharing_shareOf_68 rfl))) rfl) (s_ret (p1 := 73) (e_bipush d_Sharing_shareOf_71 (by decide)) rfl d_Sharing_shareOf_73))))
/-! BlinkerCross$Sharing.make()V -/
abbrev y_Sharing_make : MethodName := ⟨"BlinkerCross$Sharing", "make", "()V"⟩
abbrev Y_Sharing_make : Yt := (prog_9_method_3_code, 4, "BlinkerCross$Sharing", 3, none, "make")
theorem d_Sharing_make_0 : decode prog_9_method_3_code 0 = .ok (.iconst 1, 1) := by decide +kernel
theorem d_Sharing_make_1 : decode prog_9_method_3_code 1 = .ok (.aload_n 0, 1) := by decide +kernel
theorem d_Sharing_make_2 : decode prog_9_method_3_code 2 = .ok (.getfield 20, 3) := by decide +kernel
theorem d_Sharing_make_5 : decode prog_9_method_3_code 5 = .ok (.getfield 28, 3) := by decide +kernel
theorem d_Sharing_make_8 : decode prog_9_method_3_code 8 = .ok (.ishl, 1) := by decide +kernel
theorem d_Sharing_make_9 : decode prog_9_method_3_code 9 = .ok (.istore_n 1, 1) := by decide +kernel
theorem d_Sharing_make_10 : decode prog_9_method_3_code 10 = .ok (.iconst 0, 1) := by decide +kernel
theorem d_Sharing_make_11 : decode prog_9_method_3_code 11 = .ok (.istore_n 2, 1) := by decide +kernel
theorem d_Sharing_make_12 : decode prog_9_method_3_code 12 = .ok (.iload_n 2, 1) := by decide +kernel
theorem d_Sharing_make_13 : decode prog_9_method_3_code 13 = .ok (.iload_n 1, 1) := by decide +kernel
theorem d_Sharing_make_14 : decode prog_9_method_3_code 14 = .ok (.if_icmp .ge 24, 3) := by decide +kernel
theorem d_Sharing_make_17 : decode prog_9_method_3_code 17 = .ok (.aload_n 0, 1) := by decide +kernel
theorem d_Sharing_make_18 : decode prog_9_method_3_code 18 = .ok (.getfield 17, 3) := by decide +kernel
theorem d_Sharing_make_21 : decode prog_9_method_3_code 21 = .ok (.aload_n 0, 1) := by decide +kernel
theorem d_Sharing_make_22 : decode prog_9_method_3_code 22 = .ok (.getfield 20, 3) := by decide +kernel
theorem d_Sharing_make_25 : decode prog_9_method_3_code 25 = .ok (.getfield 34, 3) := by decide +kernel
theorem d_Sharing_make_28 : decode prog_9_method_3_code 28 = .ok (.aaload, 1) := by decide +kernel
theorem d_Sharing_make_29 : decode prog_9_method_3_code 29 = .ok (.iload_n 2, 1) := by decide +kernel
theorem d_Sharing_make_30 : decode prog_9_method_3_code 30 = .ok (.iconst 0, 1) := by decide +kernel
theorem d_Sharing_make_31 : decode prog_9_method_3_code 31 = .ok (.iastore, 1) := by decide +kernel
theorem d_Sharing_make_32 : decode prog_9_method_3_code 32 = .ok (.iinc 2 1, 3) := by decide +kernel
theorem d_Sharing_make_35 : decode prog_9_method_3_code 35 = .ok (.goto (-23), 3) := by decide +kernel
theorem d_Sharing_make_38 : decode prog_9_method_3_code 38 = .ok (.aload_n 0, 1) := by decide +kernel
theorem d_Sharing_make_39 : decode prog_9_method_3_code 39 = .ok (.getfield 20, 3) := by decide +kernel
theorem d_Sharing_make_42 : decode prog_9_method_3_code 42 = .ok (.getfield 34, 3) := by decide +kernel
theorem d_Sharing_make_45 : decode prog_9_method_3_code 45 = .ok (.iconst 1, 1) := by decide +kernel
theorem d_Sharing_make_46 : decode prog_9_method_3_code 46 = .ok (.isub, 1) := by decide +kernel
theorem d_Sharing_make_47 : decode prog_9_method_3_code 47 = .ok (.istore_n 2, 1) := by decide +kernel
theorem d_Sharing_make_48 : decode prog_9_method_3_code 48 = .ok (.iload_n 2, 1) := by decide +kernel
theorem d_Sharing_make_49 : decode prog_9_method_3_code 49 = .ok (.ifCond .lt 36, 3) := by decide +kernel
theorem d_Sharing_make_52 : decode prog_9_method_3_code 52 = .ok (.iconst 0, 1) := by decide +kernel
theorem d_Sharing_make_53 : decode prog_9_method_3_code 53 = .ok (.istore_n 3, 1) := by decide +kernel
theorem d_Sharing_make_54 : decode prog_9_method_3_code 54 = .ok (.iload_n 3, 1) := by decide +kernel
theorem d_Sharing_make_55 : decode prog_9_method_3_code 55 = .ok (.iload_n 1, 1) := by decide +kernel
theorem d_Sharing_make_56 : decode prog_9_method_3_code 56 = .ok (.if_icmp .ge 23, 3) := by decide +kernel
theorem d_Sharing_make_59 : decode prog_9_method_3_code 59 = .ok (.aload_n 0, 1) := by decide +kernel
theorem d_Sharing_make_60 : decode prog_9_method_3_code 60 = .ok (.getfield 17, 3) := by decide +kernel
theorem d_Sharing_make_63 : decode prog_9_method_3_code 63 = .ok (.iload_n 2, 1) := by decide +kernel
theorem d_Sharing_make_64 : decode prog_9_method_3_code 64 = .ok (.aaload, 1) := by decide +kernel
theorem d_Sharing_make_65 : decode prog_9_method_3_code 65 = .ok (.iload_n 3, 1) := by decide +kernel
theorem d_Sharing_make_66 : decode prog_9_method_3_code 66 = .ok (.aload_n 0, 1) := by decide +kernel
theorem d_Sharing_make_67 : decode prog_9_method_3_code 67 = .ok (.iload_n 2, 1) := by decide +kernel
theorem d_Sharing_make_68 : decode prog_9_method_3_code 68 = .ok (.iload_n 3, 1) := by decide +kernel
theorem d_Sharing_make_69 : decode prog_9_method_3_code 69 = .ok (.invokevirtual 37, 3) := by decide +kernel
theorem d_Sharing_make_72 : decode prog_9_method_3_code 72 = .ok (.iastore, 1) := by decide +kernel
theorem d_Sharing_make_73 : decode prog_9_method_3_code 73 = .ok (.iinc 3 1, 3) := by decide +kernel
theorem d_Sharing_make_76 : decode prog_9_method_3_code 76 = .ok (.goto (-22), 3) := by decide +kernel
theorem d_Sharing_make_79 : decode prog_9_method_3_code 79 = .ok (.iinc 2 (-1), 3) := by decide +kernel
theorem d_Sharing_make_82 : decode prog_9_method_3_code 82 = .ok (.goto (-34), 3) := by decide +kernel
theorem d_Sharing_make_85 : decode prog_9_method_3_code 85 = .ok (.iconst 0, 1) := by decide +kernel
theorem d_Sharing_make_86 : decode prog_9_method_3_code 86 = .ok (.istore_n 2, 1) := by decide +kernel
theorem d_Sharing_make_87 : decode prog_9_method_3_code 87 = .ok (.iconst 0, 1) := by decide +kernel
theorem d_Sharing_make_88 : decode prog_9_method_3_code 88 = .ok (.istore_n 3, 1) := by decide +kernel
theorem d_Sharing_make_89 : decode prog_9_method_3_code 89 = .ok (.iload_n 3, 1) := by decide +kernel
theorem d_Sharing_make_90 : decode prog_9_method_3_code 90 = .ok (.aload_n 0, 1) := by decide +kernel
theorem d_Sharing_make_91 : decode prog_9_method_3_code 91 = .ok (.getfield 20, 3) := by decide +kernel
theorem d_Sharing_make_94 : decode prog_9_method_3_code 94 = .ok (.getfield 34, 3) := by decide +kernel
theorem d_Sharing_make_97 : decode prog_9_method_3_code 97 = .ok (.if_icmp .ge 45, 3) := by decide +kernel
theorem d_Sharing_make_100 : decode prog_9_method_3_code 100 = .ok (.aload_n 0, 1) := by decide +kernel
theorem d_Sharing_make_101 : decode prog_9_method_3_code 101 = .ok (.getfield 9, 3) := by decide +kernel
theorem d_Sharing_make_104 : decode prog_9_method_3_code 104 = .ok (.iload_n 3, 1) := by decide +kernel
theorem d_Sharing_make_105 : decode prog_9_method_3_code 105 = .ok (.aload_n 0, 1) := by decide +kernel
theorem d_Sharing_make_106 : decode prog_9_method_3_code 106 = .ok (.iload_n 3, 1) := by decide +kernel
theorem d_Sharing_make_107 : decode prog_9_method_3_code 107 = .ok (.iload_n 2, 1) := by decide +kernel
theorem d_Sharing_make_108 : decode prog_9_method_3_code 108 = .ok (.invokevirtual 41, 3) := by decide +kernel
theorem d_Sharing_make_111 : decode prog_9_method_3_code 111 = .ok (.iastore, 1) := by decide +kernel
theorem d_Sharing_make_112 : decode prog_9_method_3_code 112 = .ok (.iload_n 2, 1) := by decide +kernel
theorem d_Sharing_make_113 : decode prog_9_method_3_code 113 = .ok (.aload_n 0, 1) := by decide +kernel
theorem d_Sharing_make_114 : decode prog_9_method_3_code 114 = .ok (.getfield 9, 3) := by decide +kernel
theorem d_Sharing_make_117 : decode prog_9_method_3_code 117 = .ok (.iload_n 3, 1) := by decide +kernel
theorem d_Sharing_make_118 : decode prog_9_method_3_code 118 = .ok (.iaload, 1) := by decide +kernel
theorem d_Sharing_make_119 : decode prog_9_method_3_code 119 = .ok (.ifCond .lt 14, 3) := by decide +kernel
theorem d_Sharing_make_122 : decode prog_9_method_3_code 122 = .ok (.iconst 1, 1) := by decide +kernel
theorem d_Sharing_make_123 : decode prog_9_method_3_code 123 = .ok (.aload_n 0, 1) := by decide +kernel
theorem d_Sharing_make_124 : decode prog_9_method_3_code 124 = .ok (.getfield 9, 3) := by decide +kernel
theorem d_Sharing_make_127 : decode prog_9_method_3_code 127 = .ok (.iload_n 3, 1) := by decide +kernel
theorem d_Sharing_make_128 : decode prog_9_method_3_code 128 = .ok (.iaload, 1) := by decide +kernel
theorem d_Sharing_make_129 : decode prog_9_method_3_code 129 = .ok (.ishl, 1) := by decide +kernel
theorem d_Sharing_make_130 : decode prog_9_method_3_code 130 = .ok (.goto 4, 3) := by decide +kernel
theorem d_Sharing_make_133 : decode prog_9_method_3_code 133 = .ok (.iconst 0, 1) := by decide +kernel
theorem d_Sharing_make_134 : decode prog_9_method_3_code 134 = .ok (.ior, 1) := by decide +kernel
theorem d_Sharing_make_135 : decode prog_9_method_3_code 135 = .ok (.istore_n 2, 1) := by decide +kernel
theorem d_Sharing_make_136 : decode prog_9_method_3_code 136 = .ok (.iinc 3 1, 3) := by decide +kernel
theorem d_Sharing_make_139 : decode prog_9_method_3_code 139 = .ok (.goto (-50), 3) := by decide +kernel
theorem d_Sharing_make_142 : decode prog_9_method_3_code 142 = .ok (.return_, 1) := by decide +kernel
noncomputable def Lc_Sharing_make_1 : Xp Bool := o2 (fun x y => decide (x < y)) (vI 2) (vI 1)
noncomputable def Lb_Sharing_make_1 : Sm := sAst 0 (aR (gR 9 3 (vR 0)) (gI 2 1 (gR 9 1 (vR 0)))) (vI 2) (kI (ii 0))
noncomputable def Lu_Sharing_make_1 : Sm := sInc 2 (ii 1)
noncomputable def Lc_Sharing_make_2 : Xp Bool := o2 (fun x y => decide (x < y)) (vI 3) (vI 1)
noncomputable def Lb_Sharing_make_2 : Sm := sAst 0 (aR (gR 9 3 (vR 0)) (vI 2)) (vI 3) (cI (mV 9 D_Sharing_mostFor) [asV Value.ref (vR 0), asV Value.int (vI 2), asV Value.int (vI 3)])
noncomputable def Lu_Sharing_make_2 : Sm := sInc 3 (ii 1)
noncomputable def Lc_Sharing_make_3 : Xp Bool := o1 (fun x => decide (x ≥ 0)) (vI 2)
noncomputable def Lb_Sharing_make_3 : Sm := sBlk 3 (sSeq (sDecl (asV Value.int (kI (ii 0)))) (sWh (Lc_Sharing_make_2) (Lb_Sharing_make_2) Lu_Sharing_make_2))
noncomputable def Lu_Sharing_make_3 : Sm := sInc 2 (ii (-1))
noncomputable def Lc_Sharing_make_4 : Xp Bool := o2 (fun x y => decide (x < y)) (vI 3) (gI 2 1 (gR 9 1 (vR 0)))
noncomputable def Lb_Sharing_make_4 : Sm := sSeq (sAst 0 (gR 9 0 (vR 0)) (vI 3) (cI (mV 9 D_Sharing_shareOf) [asV Value.ref (vR 0), asV Value.int (vI 3), asV Value.int (vI 2)])) (sSet 2 (asV Value.int (o2 (fun x y => x ||| y) (vI 2) (iX (o1 (fun x => decide (x ≥ 0)) (aI 0 (gR 9 0 (vR 0)) (vI 3))) (o2 (fun (x y : Int32) => x <<< (y &&& 31)) (kI (ii 1)) (aI 0 (gR 9 0 (vR 0)) (vI 3))) (kI (ii 0))))))
noncomputable def Lu_Sharing_make_4 : Sm := sInc 3 (ii 1)
noncomputable def F_Sharing_make : Sm := sSeq (sDecl (asV Value.int (o2 (fun (x y : Int32) => x <<< (y &&& 31)) (kI (ii 1)) (gI 2 0 (gR 9 1 (vR 0)))))) (sSeq (sBlk 2 (sSeq (sDecl (asV Value.int (kI (ii 0)))) (sWh (Lc_Sharing_make_1) (Lb_Sharing_make_1) Lu_Sharing_make_1))) (sSeq (sBlk 2 (sSeq (sDecl (asV Value.int (o2 (fun x y => x - y) (gI 2 1 (gR 9 1 (vR 0))) (kI (ii 1))))) (sWh (Lc_Sharing_make_3) (Lb_Sharing_make_3) Lu_Sharing_make_3))) (sSeq (sDecl (asV Value.int (kI (ii 0)))) (sSeq (sBlk 3 (sSeq (sDecl (asV Value.int (kI (ii 0)))) (sWh (Lc_Sharing_make_4) (Lb_Sharing_make_4) Lu_Sharing_make_4))) (sRetV)))))
theorem mf_Sharing_make : Mf y_Sharing_make prog_9_method_3_code 4 none 0 := ⟨tw_1152, tw_131, by decide +kernel⟩
noncomputable def D_Sharing_make : Dn := runS [1] F_Sharing_make
theorem ok_Sharing_make : MOK y_Sharing_make prog_9_method_3_code 4 none 3 0 0 D_Sharing_make := MOK.of (by decide) (by decide) (show SO Y_Sharing_make [(0, 1)] [(0, 1), (1, 1), (2, 1)] 0 143 (([], 0), ([], 0)) F_Sharing_make from
  (s_seq (sl1 := [(0, 1), (1, 1)]) (p1 := 10) (s_decl (p1 := 9) (e_ishl (p1 := 1) (p2 := 8) (e_iconst d_Sharing_make_0 (by decide)) (e_gI (k0 := 0) (p1 := 5) cf_2 (e_gR (k0 := 1) (p1 := 2) cf_9 (e_aload_n (k0 := 0) d_Sharing_make_1 rfl rfl) (by decide) tw_499 d_Sharing_make_2) (by decide) tw_197 d_Sharing_make_5) d_Sharing_make_8) (t_istore_n d_Sharing_make_9 rfl (by decide)) rfl) (s_seq (sl1 := [(0, 1), (1, 1)]) (p1 := 38) (s_blk (sl1 := [(0, 1), (1, 1), (2, 1)]) (s_seq (sl1 := [(0, 1), (1, 1), (2, 1)]) (p1 := 12) (s_decl (p1 := 11) (e_iconst d_Sharing_make_10 (by decide)) (t_istore_n d_Sharing_make_11 rfl (by decide)) rfl) (s_for (pt := 17) (pu := 32) (pf := 38) (pg := 0) (c_icmp_geF (p1 := 13) (p2 := 14) (tg := 38) (e_iload_n (k0 := 2) d_Sharing_make_12 rfl rfl) (e_iload_n (k0 := 1) d_Sharing_make_13 rfl rfl) d_Sharing_make_14 rfl) (s_ast (p1 := 29) (p2 := 30) (p3 := 31) (e_aald (p1 := 21) (p2 := 28) (e_gR (k0 := 3) (p1 := 18) cf_9 (e_aload_n (k0 := 0) d_Sharing_make_17 rfl rfl) (by decide) tw_501 d_Sharing_make_18) (e_gI (k0 := 1) (p1 := 25) cf_2 (e_gR (k0 := 1) (p1 := 22) cf_9 (e_aload_n (k0 := 0) d_Sharing_make_21 rfl rfl) (by decide) tw_499 d_Sharing_make_22) (by decide) tw_208 d_Sharing_make_25) d_Sharing_make_28) (e_iload_n (k0 := 2) d_Sharing_make_29 rfl rfl) (e_iconst d_Sharing_make_30 (by decide)) (as_i d_Sharing_make_31)) (s_goto (p1 := 35) (s_inc (k0 := 2) d_Sharing_make_32 rfl rfl (Nat.le_of_ble_eq_true rfl) rfl) d_Sharing_make_35 rfl))) rfl) (s_seq (sl1 := [(0, 1), (1, 1)]) (p1 := 85) (s_blk (sl1 := [(0, 1), (1, 1), (2, 1)]) (s_seq (sl1 := [(0, 1), (1, 1), (2, 1)]) (p1 := 48) (s_decl (p1 := 47) (e_isub (p1 := 45) (p2 := 46) (e_gI (k0 := 1) (p1 := 42) cf_2 (e_gR (k0 := 1) (p1 := 39) cf_9 (e_aload_n (k0 := 0) d_Sharing_make_38 rfl rfl) (by decide) tw_499 d_Sharing_make_39) (by decide) tw_208 d_Sharing_make_42) (e_iconst d_Sharing_make_45 (by decide)) d_Sharing_make_46) (t_istore_n d_Sharing_make_47 rfl (by decide)) rfl) (s_for (pt := 52) (pu := 79) (pf := 85) (pg := 0) (c_if_ltF (p1 := 49) (tg := 85) (e_iload_n (k0 := 2) d_Sharing_make_48 rfl rfl) d_Sharing_make_49 rfl) (s_blk (sl1 := [(0, 1), (1, 1), (2, 1), (3, 1)]) (s_seq (sl1 := [(0, 1), (1, 1), (2, 1), (3, 1)]) (p1 := 54) (s_decl (p1 := 53) (e_iconst d_Sharing_make_52 (by decide)) (t_istore_n d_Sharing_make_53 rfl (by decide)) rfl) (s_for (pt := 59) (pu := 73) (pf := 79) (pg := 0) (c_icmp_geF (p1 := 55) (p2 := 56) (tg := 79) (e_iload_n (k0 := 3) d_Sharing_make_54 rfl rfl) (e_iload_n (k0 := 1) d_Sharing_make_55 rfl rfl) d_Sharing_make_56 rfl) (s_ast (p1 := 65) (p2 := 66) (p3 := 72) (e_aald (p1 := 63) (p2 := 64) (e_gR (k0 := 3) (p1 := 60) cf_9 (e_aload_n (k0 := 0) d_Sharing_make_59 rfl rfl) (by decide) tw_501 d_Sharing_make_60) (e_iload_n (k0 := 2) d_Sharing_make_63 rfl rfl) d_Sharing_make_64) (e_iload_n (k0 := 3) d_Sharing_make_65 rfl rfl) (e_cI (p1 := 69) (a_cons (ι := Value.ref) (k0 := 1) (p1 := 67) (fun _ => rfl) (e_aload_n (k0 := 0) d_Sharing_make_66 rfl rfl) (a_cons (ι := Value.int) (k0 := 1) (p1 := 68) (fun _ => rfl) (e_iload_n (k0 := 2) d_Sharing_make_67 rfl rfl) (a_cons (ι := Value.int) (k0 := 1) (p1 := 69) (fun _ => rfl) (e_iload_n (k0 := 3) d_Sharing_make_68 rfl rfl) a_nil))) (k_virt ok_Sharing_mostFor mf_Sharing_mostFor ⟨tw_1155, tw_40⟩ rfl tw_1153 d_Sharing_make_69 (by decide) (by decide) (by decide))) (as_i d_Sharing_make_72)) (s_goto (p1 := 76) (s_inc (k0 := 3) d_Sharing_make_73 rfl rfl (Nat.le_of_ble_eq_true rfl) rfl) d_Sharing_make_76 rfl))) rfl) (s_goto (p1 := 82) (s_inc (k0 := 2) d_Sharing_make_79 rfl rfl (Nat.le_of_ble_eq_true rfl) rfl) d_Sharing_make_82 rfl))) rfl) (s_seq (sl1 := [(0, 1), (1, 1), (2, 1)]) (p1 := 87) (s_decl (p1 := 86) (e_iconst d_Sharing_make_85 (by decide)) (t_istore_n d_Sharing_make_86 rfl (by decide)) rfl) (s_seq (sl1 := [(0, 1), (1, 1), (2, 1)]) (p1 := 142) (s_blk (sl1 := [(0, 1), (1, 1), (2, 1), (3, 1)]) (s_seq (sl1 := [(0, 1), (1, 1), (2, 1), (3, 1)]) (p1 := 89) (s_decl (p1 := 88) (e_iconst d_Sharing_make_87 (by decide)) (t_istore_n d_Sharing_make_88 rfl (by decide)) rfl) (s_for (pt := 100) (pu := 136) (pf := 142) (pg := 0) (c_icmp_geF (p1 := 90) (p2 := 97) (tg := 142) (e_iload_n (k0 := 3) d_Sharing_make_89 rfl rfl) (e_gI (k0 := 1) (p1 := 94) cf_2 (e_gR (k0 := 1) (p1 := 91) cf_9 (e_aload_n (k0 := 0) d_Sharing_make_90 rfl rfl) (by decide) tw_499 d_Sharing_make_91) (by decide) tw_208 d_Sharing_make_94) d_Sharing_make_97 rfl) (s_seq (sl1 := [(0, 1), (1, 1), (2, 1), (3, 1)]) (p1 := 112) (s_ast (p1 := 104) (p2 := 105) (p3 := 111) (e_gR (k0 := 0) (p1 := 101) cf_9 (e_aload_n (k0 := 0) d_Sharing_make_100 rfl rfl) (by decide) tw_497 d_Sharing_make_101) (e_iload_n (k0 := 3) d_Sharing_make_104 rfl rfl) (e_cI (p1 := 108) (a_cons (ι := Value.ref) (k0 := 1) (p1 := 106) (fun _ => rfl) (e_aload_n (k0 := 0) d_Sharing_make_105 rfl rfl) (a_cons (ι := Value.int) (k0 := 1) (p1 := 107) (fun _ => rfl) (e_iload_n (k0 := 3) d_Sharing_make_106 rfl rfl) (a_cons (ι := Value.int) (k0 := 1) (p1 := 108) (fun _ => rfl) (e_iload_n (k0 := 2) d_Sharing_make_107 rfl rfl) a_nil))) (k_virt ok_Sharing_shareOf mf_Sharing_shareOf ⟨tw_1165, tw_42⟩ rfl tw_1163 d_Sharing_make_108 (by decide) (by decide) (by decide))) (as_i d_Sharing_make_111)) (s_set (k0 := 2) (p1 := 135) (e_ior (p1 := 113) (p2 := 134) (e_iload_n (k0 := 2) d_Sharing_make_112 rfl rfl) (e_ite (pt := 122) (p1 := 130) (pf := 133) (c_if_ltF (p1 := 119) (tg := 133) (e_iald (p1 := 117) (p2 := 118) (e_gR (k0 := 0) (p1 := 114) cf_9 (e_aload_n (k0 := 0) d_Sharing_make_113 rfl rfl) (by decide) tw_497 d_Sharing_make_114) (e_iload_n (k0 := 3) d_Sharing_make_117 rfl rfl) d_Sharing_make_118) d_Sharing_make_119 rfl) (e_ishl (p1 := 123) (p2 := 129) (e_iconst d_Sharing_make_122 (by decide)) (e_iald (p1 := 127) (p2 := 128) (e_gR (k0 := 0) (p1 := 124) cf_9 (e_aload_n (k0 := 0) d_Sharing_make_123 rfl rfl) (by decide) tw_497 d_Sharing_make_124) (e_iload_n (k0 := 3) d_Sharing_make_127 rfl rfl) d_Sharing_make_128) d_Sharing_make_129) d_Sharing_make_130 rfl (e_iconst d_Sharing_make_133 (by decide))) d_Sharing_make_134) (t_istore_n d_Sharing_make_135 rfl (by decide)) rfl rfl)) (s_goto (p1 := 139) (s_inc (k0 := 3) d_Sharing_make_136 rfl rfl (Nat.le_of_ble_eq_true rfl) rfl) d_Sharing_make_139 rfl))) rfl) (s_retV rfl d_Sharing_make_142)))))))
/-! BlinkerCross$Sharing.total()I -/
abbrev y_Sharing_total : MethodName := ⟨"BlinkerCross$Sharing", "total", "()I"⟩
abbrev Y_Sharing_total : Yt := (prog_9_method_2_code, 1, "BlinkerCross$Sharing", 0, (some .int), "total")
theorem d_Sharing_total_0 : decode prog_9_method_2_code 0 = .ok (.aload_n 0, 1) := by decide +kernel
theorem d_Sharing_total_1 : decode prog_9_method_2_code 1 = .ok (.getfield 17, 3) := by decide +kernel
theorem d_Sharing_total_4 : decode prog_9_method_2_code 4 = .ok (.iconst 0, 1) := by decide +kernel
theorem d_Sharing_total_5 : decode prog_9_method_2_code 5 = .ok (.aaload, 1) := by decide +kernel
theorem d_Sharing_total_6 : decode prog_9_method_2_code 6 = .ok (.iconst 0, 1) := by decide +kernel
theorem d_Sharing_total_7 : decode prog_9_method_2_code 7 = .ok (.iaload, 1) := by decide +kernel
theorem d_Sharing_total_8 : decode prog_9_method_2_code 8 = .ok (.ireturn, 1) := by decide +kernel
noncomputable def F_Sharing_total : Sm := sRet (asV Value.int (aI 0 (aR (gR 9 3 (vR 0)) (kI (ii 0))) (kI (ii 0))))
theorem mf_Sharing_total : Mf y_Sharing_total prog_9_method_2_code 1 (some .int) 0 := ⟨tw_1170, tw_131, by decide +kernel⟩
noncomputable def D_Sharing_total : Dn := runS [1] F_Sharing_total
theorem ok_Sharing_total : MOK y_Sharing_total prog_9_method_2_code 1 (some .int) 0 0 0 D_Sharing_total := MOK.of (by decide) (by decide) (show SO Y_Sharing_total [(0, 1)] [(0, 1)] 0 9 (([], 0), ([], 0)) F_Sharing_total from
  (s_ret (p1 := 8) (e_iald (p1 := 6) (p2 := 7) (e_aald (p1 := 4) (p2 := 5) (e_gR (k0 := 3) (p1 := 1) cf_9 (e_aload_n (k0 := 0) d_Sharing_total_0 rfl rfl) (by decide) tw_501 d_Sharing_total_1) (e_iconst d_Sharing_total_4 (by decide)) d_Sharing_total_5) (e_iconst d_Sharing_total_6 (by decide)) d_Sharing_total_7) rfl d_Sharing_total_8))

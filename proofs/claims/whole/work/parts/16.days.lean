/-! Methods: bytes, denotations, that the bytes do so (written by wip/whole/jgen.py). -/
/-! BlinkerCross$Days.mixed(II)I -/
abbrev y_Days_mixed : MethodName := ⟨"BlinkerCross$Days", "mixed", "(II)I"⟩
abbrev Y_Days_mixed : Yt := (prog_2_method_6_code, 3, "BlinkerCross$Days", 0, (some .int), "mixed")
theorem d_Days_mixed_0 : decode prog_2_method_6_code 0 = .ok (.iload_n 0, 1) := by decide +kernel
theorem d_Days_mixed_1 : decode prog_2_method_6_code 1 = .ok (.iload_n 1, 1) := by decide +kernel
theorem d_Days_mixed_2 : decode prog_2_method_6_code 2 = .ok (.ixor, 1) := by decide +kernel
theorem d_Days_mixed_3 : decode prog_2_method_6_code 3 = .ok (.ldc 92, 2) := by decide +kernel
theorem d_Days_mixed_5 : decode prog_2_method_6_code 5 = .ok (.imul, 1) := by decide +kernel
theorem d_Days_mixed_6 : decode prog_2_method_6_code 6 = .ok (.sipush 12345, 3) := by decide +kernel
theorem d_Days_mixed_9 : decode prog_2_method_6_code 9 = .ok (.iadd, 1) := by decide +kernel
theorem d_Days_mixed_10 : decode prog_2_method_6_code 10 = .ok (.istore_n 2, 1) := by decide +kernel
theorem d_Days_mixed_11 : decode prog_2_method_6_code 11 = .ok (.iload_n 2, 1) := by decide +kernel
theorem d_Days_mixed_12 : decode prog_2_method_6_code 12 = .ok (.iload_n 2, 1) := by decide +kernel
theorem d_Days_mixed_13 : decode prog_2_method_6_code 13 = .ok (.bipush 15, 2) := by decide +kernel
theorem d_Days_mixed_15 : decode prog_2_method_6_code 15 = .ok (.iushr, 1) := by decide +kernel
theorem d_Days_mixed_16 : decode prog_2_method_6_code 16 = .ok (.ixor, 1) := by decide +kernel
theorem d_Days_mixed_17 : decode prog_2_method_6_code 17 = .ok (.ireturn, 1) := by decide +kernel
noncomputable def F_Days_mixed : Sm := sSeq (sDecl (asV Value.int (o2 (fun x y => x + y) (o2 (fun x y => x * y) (o2 (fun x y => x ^^^ y) (vI 0) (vI 1)) (kI (ii 1103515245))) (kI (ii 12345))))) (sRet (asV Value.int (o2 (fun x y => x ^^^ y) (vI 2) (o2 (fun x y => (x.toUInt32 >>> (y.toUInt32 &&& Int32.toUInt32 31)).toInt32) (vI 2) (kI (ii 15))))))
theorem mf_Days_mixed : Mf y_Days_mixed prog_2_method_6_code 3 (some .int) 2 := ⟨tw_1015, tw_128, by decide +kernel⟩
noncomputable def D_Days_mixed : Dn := runS [1, 1] F_Days_mixed
theorem ok_Days_mixed : MOK y_Days_mixed prog_2_method_6_code 3 (some .int) 0 0 0 D_Days_mixed := MOK.of (by decide) (by decide) (show SO Y_Days_mixed [(0, 1), (1, 1)] [(0, 1), (1, 1), (2, 1)] 0 18 (([], 0), ([], 0)) F_Days_mixed from
  (s_seq (sl1 := [(0, 1), (1, 1), (2, 1)]) (p1 := 11) (s_decl (p1 := 10) (e_iadd (p1 := 6) (p2 := 9) (e_imul (p1 := 3) (p2 := 5) (e_ixor (p1 := 1) (p2 := 2) (e_iload_n (k0 := 0) d_Days_mixed_0 rfl rfl) (e_iload_n (k0 := 1) d_Days_mixed_1 rfl rfl) d_Days_mixed_2) (e_ldc d_Days_mixed_3 tw_1016) d_Days_mixed_5) (e_sipush d_Days_mixed_6 (by decide)) d_Days_mixed_9) (t_istore_n d_Days_mixed_10 rfl (by decide)) rfl) (s_ret (p1 := 17) (e_ixor (p1 := 12) (p2 := 16) (e_iload_n (k0 := 2) d_Days_mixed_11 rfl rfl) (e_iushr (p1 := 13) (p2 := 15) (e_iload_n (k0 := 2) d_Days_mixed_12 rfl rfl) (e_bipush d_Days_mixed_13 (by decide)) d_Days_mixed_15) d_Days_mixed_16) rfl d_Days_mixed_17)))
/-! BlinkerCross$Days.lot(III)I -/
abbrev y_Days_lot : MethodName := ⟨"BlinkerCross$Days", "lot", "(III)I"⟩
abbrev Y_Days_lot : Yt := (prog_2_method_5_code, 4, "BlinkerCross$Days", 1, (some .int), "lot")
theorem d_Days_lot_0 : decode prog_2_method_5_code 0 = .ok (.iload_n 1, 1) := by decide +kernel
theorem d_Days_lot_1 : decode prog_2_method_5_code 1 = .ok (.sipush 207, 3) := by decide +kernel
theorem d_Days_lot_4 : decode prog_2_method_5_code 4 = .ok (.invokestatic 89, 3) := by decide +kernel
theorem d_Days_lot_7 : decode prog_2_method_5_code 7 = .ok (.iload_n 2, 1) := by decide +kernel
theorem d_Days_lot_8 : decode prog_2_method_5_code 8 = .ok (.invokestatic 89, 3) := by decide +kernel
theorem d_Days_lot_11 : decode prog_2_method_5_code 11 = .ok (.iconst 1, 1) := by decide +kernel
theorem d_Days_lot_12 : decode prog_2_method_5_code 12 = .ok (.iushr, 1) := by decide +kernel
theorem d_Days_lot_13 : decode prog_2_method_5_code 13 = .ok (.istore_n 3, 1) := by decide +kernel
theorem d_Days_lot_14 : decode prog_2_method_5_code 14 = .ok (.iload_n 0, 1) := by decide +kernel
theorem d_Days_lot_15 : decode prog_2_method_5_code 15 = .ok (.ifCond .le 9, 3) := by decide +kernel
theorem d_Days_lot_18 : decode prog_2_method_5_code 18 = .ok (.iload_n 3, 1) := by decide +kernel
theorem d_Days_lot_19 : decode prog_2_method_5_code 19 = .ok (.iload_n 0, 1) := by decide +kernel
theorem d_Days_lot_20 : decode prog_2_method_5_code 20 = .ok (.irem, 1) := by decide +kernel
theorem d_Days_lot_21 : decode prog_2_method_5_code 21 = .ok (.goto 4, 3) := by decide +kernel
theorem d_Days_lot_24 : decode prog_2_method_5_code 24 = .ok (.iconst 0, 1) := by decide +kernel
theorem d_Days_lot_25 : decode prog_2_method_5_code 25 = .ok (.ireturn, 1) := by decide +kernel
noncomputable def F_Days_lot : Sm := sSeq (sDecl (asV Value.int (o2 (fun x y => (x.toUInt32 >>> (y.toUInt32 &&& Int32.toUInt32 31)).toInt32) (cI (D_Days_mixed) [asV Value.int (cI (D_Days_mixed) [asV Value.int (vI 1), asV Value.int (kI (ii 207))]), asV Value.int (vI 2)]) (kI (ii 1))))) (sRet (asV Value.int (iX (o1 (fun x => decide (x > 0)) (vI 0)) (oR (vI 3) (vI 0)) (kI (ii 0)))))
theorem mf_Days_lot : Mf y_Days_lot prog_2_method_5_code 4 (some .int) 3 := ⟨tw_1012, tw_128, by decide +kernel⟩
noncomputable def D_Days_lot : Dn := runS [1, 1, 1] F_Days_lot
theorem ok_Days_lot : MOK y_Days_lot prog_2_method_5_code 4 (some .int) 1 0 0 D_Days_lot := MOK.of (by decide) (by decide) (show SO Y_Days_lot [(0, 1), (1, 1), (2, 1)] [(0, 1), (1, 1), (2, 1), (3, 1)] 0 26 (([], 0), ([], 0)) F_Days_lot from
  (s_seq (sl1 := [(0, 1), (1, 1), (2, 1), (3, 1)]) (p1 := 14) (s_decl (p1 := 13) (e_iushr (p1 := 11) (p2 := 12) (e_cI (p1 := 8) (a_cons (ι := Value.int) (k0 := 1) (p1 := 7) (fun _ => rfl) (e_cI (p1 := 4) (a_cons (ι := Value.int) (k0 := 1) (p1 := 1) (fun _ => rfl) (e_iload_n (k0 := 1) d_Days_lot_0 rfl rfl) (a_cons (ι := Value.int) (k0 := 1) (p1 := 4) (fun _ => rfl) (e_sipush d_Days_lot_1 (by decide)) a_nil)) (k_stat ok_Days_mixed mf_Days_mixed tw_1014 tw_1013 d_Days_lot_4 (by decide) (by decide) (by decide))) (a_cons (ι := Value.int) (k0 := 1) (p1 := 8) (fun _ => rfl) (e_iload_n (k0 := 2) d_Days_lot_7 rfl rfl) a_nil)) (k_stat ok_Days_mixed mf_Days_mixed tw_1014 tw_1013 d_Days_lot_8 (by decide) (by decide) (by decide))) (e_iconst d_Days_lot_11 (by decide)) d_Days_lot_12) (t_istore_n d_Days_lot_13 rfl (by decide)) rfl) (s_ret (p1 := 25) (e_ite (pt := 18) (p1 := 21) (pf := 24) (c_if_leF (p1 := 15) (tg := 24) (e_iload_n (k0 := 0) d_Days_lot_14 rfl rfl) d_Days_lot_15 rfl) (e_irem (p1 := 19) (p2 := 20) (e_iload_n (k0 := 3) d_Days_lot_18 rfl rfl) (e_iload_n (k0 := 0) d_Days_lot_19 rfl rfl) d_Days_lot_20) d_Days_lot_21 rfl (e_iconst d_Days_lot_24 (by decide))) rfl d_Days_lot_25)))
/-! BlinkerCross$Days.passOne(LBlinkerCross$Scene;II)V -/
abbrev y_Days_passOne : MethodName := ⟨"BlinkerCross$Days", "passOne", "(LBlinkerCross$Scene;II)V"⟩
abbrev Y_Days_passOne : Yt := (prog_2_method_4_code, 10, "BlinkerCross$Days", 4, none, "passOne")
theorem d_Days_passOne_0 : decode prog_2_method_4_code 0 = .ok (.aload_n 0, 1) := by decide +kernel
theorem d_Days_passOne_1 : decode prog_2_method_4_code 1 = .ok (.getfield 15, 3) := by decide +kernel
theorem d_Days_passOne_4 : decode prog_2_method_4_code 4 = .ok (.aload_n 1, 1) := by decide +kernel
theorem d_Days_passOne_5 : decode prog_2_method_4_code 5 = .ok (.iload_n 2, 1) := by decide +kernel
theorem d_Days_passOne_6 : decode prog_2_method_4_code 6 = .ok (.invokevirtual 56, 3) := by decide +kernel
theorem d_Days_passOne_9 : decode prog_2_method_4_code 9 = .ok (.aload_n 0, 1) := by decide +kernel
theorem d_Days_passOne_10 : decode prog_2_method_4_code 10 = .ok (.getfield 15, 3) := by decide +kernel
theorem d_Days_passOne_13 : decode prog_2_method_4_code 13 = .ok (.invokevirtual 62, 3) := by decide +kernel
theorem d_Days_passOne_16 : decode prog_2_method_4_code 16 = .ok (.istore 4, 2) := by decide +kernel
theorem d_Days_passOne_18 : decode prog_2_method_4_code 18 = .ok (.aload_n 0, 1) := by decide +kernel
theorem d_Days_passOne_19 : decode prog_2_method_4_code 19 = .ok (.getfield 15, 3) := by decide +kernel
theorem d_Days_passOne_22 : decode prog_2_method_4_code 22 = .ok (.invokevirtual 66, 3) := by decide +kernel
theorem d_Days_passOne_25 : decode prog_2_method_4_code 25 = .ok (.istore 5, 2) := by decide +kernel
theorem d_Days_passOne_27 : decode prog_2_method_4_code 27 = .ok (.iload_n 3, 1) := by decide +kernel
theorem d_Days_passOne_28 : decode prog_2_method_4_code 28 = .ok (.aload_n 0, 1) := by decide +kernel
theorem d_Days_passOne_29 : decode prog_2_method_4_code 29 = .ok (.getfield 15, 3) := by decide +kernel
theorem d_Days_passOne_32 : decode prog_2_method_4_code 32 = .ok (.invokevirtual 70, 3) := by decide +kernel
theorem d_Days_passOne_35 : decode prog_2_method_4_code 35 = .ok (.if_icmp .ge 7, 3) := by decide +kernel
theorem d_Days_passOne_38 : decode prog_2_method_4_code 38 = .ok (.iconst 1, 1) := by decide +kernel
theorem d_Days_passOne_39 : decode prog_2_method_4_code 39 = .ok (.goto 4, 3) := by decide +kernel
theorem d_Days_passOne_42 : decode prog_2_method_4_code 42 = .ok (.iconst 0, 1) := by decide +kernel
theorem d_Days_passOne_43 : decode prog_2_method_4_code 43 = .ok (.istore 6, 2) := by decide +kernel
theorem d_Days_passOne_45 : decode prog_2_method_4_code 45 = .ok (.aload_n 0, 1) := by decide +kernel
theorem d_Days_passOne_46 : decode prog_2_method_4_code 46 = .ok (.getfield 15, 3) := by decide +kernel
theorem d_Days_passOne_49 : decode prog_2_method_4_code 49 = .ok (.aload_n 1, 1) := by decide +kernel
theorem d_Days_passOne_50 : decode prog_2_method_4_code 50 = .ok (.iload_n 2, 1) := by decide +kernel
theorem d_Days_passOne_51 : decode prog_2_method_4_code 51 = .ok (.invokevirtual 73, 3) := by decide +kernel
theorem d_Days_passOne_54 : decode prog_2_method_4_code 54 = .ok (.istore 7, 2) := by decide +kernel
theorem d_Days_passOne_56 : decode prog_2_method_4_code 56 = .ok (.aload_n 1, 1) := by decide +kernel
theorem d_Days_passOne_57 : decode prog_2_method_4_code 57 = .ok (.getfield 28, 3) := by decide +kernel
theorem d_Days_passOne_60 : decode prog_2_method_4_code 60 = .ok (.astore 8, 2) := by decide +kernel
theorem d_Days_passOne_62 : decode prog_2_method_4_code 62 = .ok (.aload 8, 2) := by decide +kernel
theorem d_Days_passOne_64 : decode prog_2_method_4_code 64 = .ok (.bipush 15, 2) := by decide +kernel
theorem d_Days_passOne_66 : decode prog_2_method_4_code 66 = .ok (.iload_n 2, 1) := by decide +kernel
theorem d_Days_passOne_67 : decode prog_2_method_4_code 67 = .ok (.iadd, 1) := by decide +kernel
theorem d_Days_passOne_68 : decode prog_2_method_4_code 68 = .ok (.dup2, 1) := by decide +kernel
theorem d_Days_passOne_69 : decode prog_2_method_4_code 69 = .ok (.iaload, 1) := by decide +kernel
theorem d_Days_passOne_70 : decode prog_2_method_4_code 70 = .ok (.iload 4, 2) := by decide +kernel
theorem d_Days_passOne_72 : decode prog_2_method_4_code 72 = .ok (.iadd, 1) := by decide +kernel
theorem d_Days_passOne_73 : decode prog_2_method_4_code 73 = .ok (.iastore, 1) := by decide +kernel
theorem d_Days_passOne_74 : decode prog_2_method_4_code 74 = .ok (.aload 8, 2) := by decide +kernel
theorem d_Days_passOne_76 : decode prog_2_method_4_code 76 = .ok (.bipush 20, 2) := by decide +kernel
theorem d_Days_passOne_78 : decode prog_2_method_4_code 78 = .ok (.iload_n 2, 1) := by decide +kernel
theorem d_Days_passOne_79 : decode prog_2_method_4_code 79 = .ok (.iadd, 1) := by decide +kernel
theorem d_Days_passOne_80 : decode prog_2_method_4_code 80 = .ok (.dup2, 1) := by decide +kernel
theorem d_Days_passOne_81 : decode prog_2_method_4_code 81 = .ok (.iaload, 1) := by decide +kernel
theorem d_Days_passOne_82 : decode prog_2_method_4_code 82 = .ok (.iload 7, 2) := by decide +kernel
theorem d_Days_passOne_84 : decode prog_2_method_4_code 84 = .ok (.iadd, 1) := by decide +kernel
theorem d_Days_passOne_85 : decode prog_2_method_4_code 85 = .ok (.iastore, 1) := by decide +kernel
theorem d_Days_passOne_86 : decode prog_2_method_4_code 86 = .ok (.aload 8, 2) := by decide +kernel
theorem d_Days_passOne_88 : decode prog_2_method_4_code 88 = .ok (.iconst 5, 1) := by decide +kernel
theorem d_Days_passOne_89 : decode prog_2_method_4_code 89 = .ok (.iload_n 2, 1) := by decide +kernel
theorem d_Days_passOne_90 : decode prog_2_method_4_code 90 = .ok (.iadd, 1) := by decide +kernel
theorem d_Days_passOne_91 : decode prog_2_method_4_code 91 = .ok (.iaload, 1) := by decide +kernel
theorem d_Days_passOne_92 : decode prog_2_method_4_code 92 = .ok (.istore 9, 2) := by decide +kernel
theorem d_Days_passOne_94 : decode prog_2_method_4_code 94 = .ok (.aload 8, 2) := by decide +kernel
theorem d_Days_passOne_96 : decode prog_2_method_4_code 96 = .ok (.iconst 5, 1) := by decide +kernel
theorem d_Days_passOne_97 : decode prog_2_method_4_code 97 = .ok (.iload_n 2, 1) := by decide +kernel
theorem d_Days_passOne_98 : decode prog_2_method_4_code 98 = .ok (.iadd, 1) := by decide +kernel
theorem d_Days_passOne_99 : decode prog_2_method_4_code 99 = .ok (.iload 5, 2) := by decide +kernel
theorem d_Days_passOne_101 : decode prog_2_method_4_code 101 = .ok (.ifCond .eq 14, 3) := by decide +kernel
theorem d_Days_passOne_104 : decode prog_2_method_4_code 104 = .ok (.iconst 1, 1) := by decide +kernel
theorem d_Days_passOne_105 : decode prog_2_method_4_code 105 = .ok (.iload 9, 2) := by decide +kernel
theorem d_Days_passOne_107 : decode prog_2_method_4_code 107 = .ok (.iconst 1, 1) := by decide +kernel
theorem d_Days_passOne_108 : decode prog_2_method_4_code 108 = .ok (.isub, 1) := by decide +kernel
theorem d_Days_passOne_109 : decode prog_2_method_4_code 109 = .ok (.invokestatic 77, 3) := by decide +kernel
theorem d_Days_passOne_112 : decode prog_2_method_4_code 112 = .ok (.goto 17, 3) := by decide +kernel
theorem d_Days_passOne_115 : decode prog_2_method_4_code 115 = .ok (.aload 8, 2) := by decide +kernel
theorem d_Days_passOne_117 : decode prog_2_method_4_code 117 = .ok (.bipush 10, 2) := by decide +kernel
theorem d_Days_passOne_119 : decode prog_2_method_4_code 119 = .ok (.iload_n 2, 1) := by decide +kernel
theorem d_Days_passOne_120 : decode prog_2_method_4_code 120 = .ok (.iadd, 1) := by decide +kernel
theorem d_Days_passOne_121 : decode prog_2_method_4_code 121 = .ok (.iaload, 1) := by decide +kernel
theorem d_Days_passOne_122 : decode prog_2_method_4_code 122 = .ok (.iload 9, 2) := by decide +kernel
theorem d_Days_passOne_124 : decode prog_2_method_4_code 124 = .ok (.iconst 1, 1) := by decide +kernel
theorem d_Days_passOne_125 : decode prog_2_method_4_code 125 = .ok (.iadd, 1) := by decide +kernel
theorem d_Days_passOne_126 : decode prog_2_method_4_code 126 = .ok (.invokestatic 83, 3) := by decide +kernel
theorem d_Days_passOne_129 : decode prog_2_method_4_code 129 = .ok (.iastore, 1) := by decide +kernel
theorem d_Days_passOne_130 : decode prog_2_method_4_code 130 = .ok (.iload 6, 2) := by decide +kernel
theorem d_Days_passOne_132 : decode prog_2_method_4_code 132 = .ok (.ifCond .eq 15, 3) := by decide +kernel
theorem d_Days_passOne_135 : decode prog_2_method_4_code 135 = .ok (.aload 8, 2) := by decide +kernel
theorem d_Days_passOne_137 : decode prog_2_method_4_code 137 = .ok (.iconst 0, 1) := by decide +kernel
theorem d_Days_passOne_138 : decode prog_2_method_4_code 138 = .ok (.iload_n 2, 1) := by decide +kernel
theorem d_Days_passOne_139 : decode prog_2_method_4_code 139 = .ok (.iadd, 1) := by decide +kernel
theorem d_Days_passOne_140 : decode prog_2_method_4_code 140 = .ok (.aload_n 1, 1) := by decide +kernel
theorem d_Days_passOne_141 : decode prog_2_method_4_code 141 = .ok (.iload_n 2, 1) := by decide +kernel
theorem d_Days_passOne_142 : decode prog_2_method_4_code 142 = .ok (.iconst 1, 1) := by decide +kernel
theorem d_Days_passOne_143 : decode prog_2_method_4_code 143 = .ok (.invokevirtual 86, 3) := by decide +kernel
theorem d_Days_passOne_146 : decode prog_2_method_4_code 146 = .ok (.iastore, 1) := by decide +kernel
theorem d_Days_passOne_147 : decode prog_2_method_4_code 147 = .ok (.return_, 1) := by decide +kernel
noncomputable def F_Days_passOne : Sm := sSeq (sCall (mV 5 D_Laws_meet) [asV Value.ref (gR 6 1 (vR 0)), asV Value.ref (vR 1), asV Value.int (vI 2)]) (sSeq (sDecl (asV Value.int (cI (mV 5 D_Laws_heldStands) [asV Value.ref (gR 6 1 (vR 0))]))) (sSeq (sDecl (asV Value.int (cI (mV 5 D_Laws_isKeeping) [asV Value.ref (gR 6 1 (vR 0))]))) (sSeq (sDecl (asV Value.int (bX (o2 (fun x y => decide (x < y)) (vI 3) (cI (mV 5 D_Laws_heldTurns) [asV Value.ref (gR 6 1 (vR 0))]))))) (sSeq (sDecl (asV Value.int (cI (mV 5 D_Laws_gainNow) [asV Value.ref (gR 6 1 (vR 0)), asV Value.ref (vR 1), asV Value.int (vI 2)]))) (sSeq (sDecl (asV Value.ref (gR 4 0 (vR 1)))) (sSeq (sAop 0 (vR 8) (o2 (fun x y => x + y) (kI (ii 15)) (vI 2)) (fun x y => x + y) (vI 4)) (sSeq (sAop 0 (vR 8) (o2 (fun x y => x + y) (kI (ii 20)) (vI 2)) (fun x y => x + y) (vI 7)) (sSeq (sDecl (asV Value.int (aI 0 (vR 8) (o2 (fun x y => x + y) (kI (ii 5)) (vI 2))))) (sSeq (sAst 0 (vR 8) (o2 (fun x y => x + y) (kI (ii 5)) (vI 2)) (iX (o1 (fun x => decide (x ≠ 0)) (vI 5)) (o2 (fun x y => if x < y then y else x) (kI (ii 1)) (o2 (fun x y => x - y) (vI 9) (kI (ii 1)))) (o2 (fun x y => if y < x then y else x) (aI 0 (vR 8) (o2 (fun x y => x + y) (kI (ii 10)) (vI 2))) (o2 (fun x y => x + y) (vI 9) (kI (ii 1)))))) (sSeq (sIf (o1 (fun x => decide (x ≠ 0)) (vI 6)) (sAst 0 (vR 8) (o2 (fun x y => x + y) (kI (ii 0)) (vI 2)) (cI (mV 4 D_Scene_roadAt) [asV Value.ref (vR 1), asV Value.int (vI 2), asV Value.int (kI (ii 1))])) (sSkip)) (sRetV)))))))))))
theorem mf_Days_passOne : Mf y_Days_passOne prog_2_method_4_code 10 none 3 := ⟨tw_1020, tw_128, by decide +kernel⟩
noncomputable def D_Days_passOne : Dn := runS [1, 1, 1, 1] F_Days_passOne
theorem ok_Days_passOne : MOK y_Days_passOne prog_2_method_4_code 10 none 4 0 0 D_Days_passOne := MOK.of (by decide) (by decide) (show SO Y_Days_passOne [(0, 1), (1, 1), (2, 1), (3, 1)] [(0, 1), (1, 1), (2, 1), (3, 1), (4, 1), (5, 1), (6, 1), (7, 1), (8, 1), (9, 1)] 0 148 (([], 0), ([], 0)) F_Days_passOne from
  (s_seq (sl1 := [(0, 1), (1, 1), (2, 1), (3, 1)]) (p1 := 9) (s_call (p1 := 6) (a_cons (ι := Value.ref) (k0 := 1) (p1 := 4) (fun _ => rfl) (e_gR (k0 := 1) (p1 := 1) cf_6 (e_aload_n (k0 := 0) d_Days_passOne_0 rfl rfl) (by decide) tw_370 d_Days_passOne_1) (a_cons (ι := Value.ref) (k0 := 1) (p1 := 5) (fun _ => rfl) (e_aload_n (k0 := 1) d_Days_passOne_4 rfl rfl) (a_cons (ι := Value.int) (k0 := 1) (p1 := 6) (fun _ => rfl) (e_iload_n (k0 := 2) d_Days_passOne_5 rfl rfl) a_nil))) (k_virt ok_Laws_meet mf_Laws_meet ⟨tw_918, tw_919⟩ rfl tw_1021 d_Days_passOne_6 (by decide) (by decide) (by decide))) (s_seq (sl1 := [(0, 1), (1, 1), (2, 1), (3, 1), (4, 1)]) (p1 := 18) (s_decl (p1 := 16) (e_cI (p1 := 13) (a_cons (ι := Value.ref) (k0 := 1) (p1 := 13) (fun _ => rfl) (e_gR (k0 := 1) (p1 := 10) cf_6 (e_aload_n (k0 := 0) d_Days_passOne_9 rfl rfl) (by decide) tw_370 d_Days_passOne_10) a_nil) (k_virt ok_Laws_heldStands mf_Laws_heldStands ⟨tw_933, tw_934⟩ rfl tw_1022 d_Days_passOne_13 (by decide) (by decide) (by decide))) (t_istore d_Days_passOne_16 (by decide)) rfl) (s_seq (sl1 := [(0, 1), (1, 1), (2, 1), (3, 1), (4, 1), (5, 1)]) (p1 := 27) (s_decl (p1 := 25) (e_cI (p1 := 22) (a_cons (ι := Value.ref) (k0 := 1) (p1 := 22) (fun _ => rfl) (e_gR (k0 := 1) (p1 := 19) cf_6 (e_aload_n (k0 := 0) d_Days_passOne_18 rfl rfl) (by decide) tw_370 d_Days_passOne_19) a_nil) (k_virt ok_Laws_isKeeping mf_Laws_isKeeping ⟨tw_954, tw_955⟩ rfl tw_1023 d_Days_passOne_22 (by decide) (by decide) (by decide))) (t_istore d_Days_passOne_25 (by decide)) rfl) (s_seq (sl1 := [(0, 1), (1, 1), (2, 1), (3, 1), (4, 1), (5, 1), (6, 1)]) (p1 := 45) (s_decl (p1 := 43) (e_bool (pt := 38) (pf := 42) (c_icmp_geF (p1 := 28) (p2 := 35) (tg := 42) (e_iload_n (k0 := 3) d_Days_passOne_27 rfl rfl) (e_cI (p1 := 32) (a_cons (ι := Value.ref) (k0 := 1) (p1 := 32) (fun _ => rfl) (e_gR (k0 := 1) (p1 := 29) cf_6 (e_aload_n (k0 := 0) d_Days_passOne_28 rfl rfl) (by decide) tw_370 d_Days_passOne_29) a_nil) (k_virt ok_Laws_heldTurns mf_Laws_heldTurns ⟨tw_958, tw_959⟩ rfl tw_1024 d_Days_passOne_32 (by decide) (by decide) (by decide))) d_Days_passOne_35 rfl) d_Days_passOne_38 d_Days_passOne_39 rfl d_Days_passOne_42 rfl) (t_istore d_Days_passOne_43 (by decide)) rfl) (s_seq (sl1 := [(0, 1), (1, 1), (2, 1), (3, 1), (4, 1), (5, 1), (6, 1), (7, 1)]) (p1 := 56) (s_decl (p1 := 54) (e_cI (p1 := 51) (a_cons (ι := Value.ref) (k0 := 1) (p1 := 49) (fun _ => rfl) (e_gR (k0 := 1) (p1 := 46) cf_6 (e_aload_n (k0 := 0) d_Days_passOne_45 rfl rfl) (by decide) tw_370 d_Days_passOne_46) (a_cons (ι := Value.ref) (k0 := 1) (p1 := 50) (fun _ => rfl) (e_aload_n (k0 := 1) d_Days_passOne_49 rfl rfl) (a_cons (ι := Value.int) (k0 := 1) (p1 := 51) (fun _ => rfl) (e_iload_n (k0 := 2) d_Days_passOne_50 rfl rfl) a_nil))) (k_virt ok_Laws_gainNow mf_Laws_gainNow ⟨tw_1026, tw_1027⟩ rfl tw_1025 d_Days_passOne_51 (by decide) (by decide) (by decide))) (t_istore d_Days_passOne_54 (by decide)) rfl) (s_seq (sl1 := [(0, 1), (1, 1), (2, 1), (3, 1), (4, 1), (5, 1), (6, 1), (7, 1), (8, 1)]) (p1 := 62) (s_decl (p1 := 60) (e_gR (k0 := 0) (p1 := 57) cf_4 (e_aload_n (k0 := 1) d_Days_passOne_56 rfl rfl) (by decide) tw_317 d_Days_passOne_57) (t_astore d_Days_passOne_60 (by decide)) rfl) (s_seq (sl1 := [(0, 1), (1, 1), (2, 1), (3, 1), (4, 1), (5, 1), (6, 1), (7, 1), (8, 1)]) (p1 := 74) (s_aop (p1 := 64) (p2 := 68) (p3 := 72) (e_aload (k0 := 8) d_Days_passOne_62 rfl) (e_iadd (p1 := 66) (p2 := 67) (e_bipush d_Days_passOne_64 (by decide)) (e_iload_n (k0 := 2) d_Days_passOne_66 rfl rfl) d_Days_passOne_67) d_Days_passOne_68 (ad_i d_Days_passOne_69) (e_iload (k0 := 4) d_Days_passOne_70 rfl) (op_iadd d_Days_passOne_72) (as_i d_Days_passOne_73)) (s_seq (sl1 := [(0, 1), (1, 1), (2, 1), (3, 1), (4, 1), (5, 1), (6, 1), (7, 1), (8, 1)]) (p1 := 86) (s_aop (p1 := 76) (p2 := 80) (p3 := 84) (e_aload (k0 := 8) d_Days_passOne_74 rfl) (e_iadd (p1 := 78) (p2 := 79) (e_bipush d_Days_passOne_76 (by decide)) (e_iload_n (k0 := 2) d_Days_passOne_78 rfl rfl) d_Days_passOne_79) d_Days_passOne_80 (ad_i d_Days_passOne_81) (e_iload (k0 := 7) d_Days_passOne_82 rfl) (op_iadd d_Days_passOne_84) (as_i d_Days_passOne_85)) (s_seq (sl1 := [(0, 1), (1, 1), (2, 1), (3, 1), (4, 1), (5, 1), (6, 1), (7, 1), (8, 1), (9, 1)]) (p1 := 94) (s_decl (p1 := 92) (e_iald (p1 := 88) (p2 := 91) (e_aload (k0 := 8) d_Days_passOne_86 rfl) (e_iadd (p1 := 89) (p2 := 90) (e_iconst d_Days_passOne_88 (by decide)) (e_iload_n (k0 := 2) d_Days_passOne_89 rfl rfl) d_Days_passOne_90) d_Days_passOne_91) (t_istore d_Days_passOne_92 (by decide)) rfl) (s_seq (sl1 := [(0, 1), (1, 1), (2, 1), (3, 1), (4, 1), (5, 1), (6, 1), (7, 1), (8, 1), (9, 1)]) (p1 := 130) (s_ast (p1 := 96) (p2 := 99) (p3 := 129) (e_aload (k0 := 8) d_Days_passOne_94 rfl) (e_iadd (p1 := 97) (p2 := 98) (e_iconst d_Days_passOne_96 (by decide)) (e_iload_n (k0 := 2) d_Days_passOne_97 rfl rfl) d_Days_passOne_98) (e_ite (pt := 104) (p1 := 112) (pf := 115) (c_if_eqF (p1 := 101) (tg := 115) (e_iload (k0 := 5) d_Days_passOne_99 rfl) d_Days_passOne_101 rfl) (e_max (p1 := 105) (p2 := 109) (e_iconst d_Days_passOne_104 (by decide)) (e_isub (p1 := 107) (p2 := 108) (e_iload (k0 := 9) d_Days_passOne_105 rfl) (e_iconst d_Days_passOne_107 (by decide)) d_Days_passOne_108) ⟨tw_1030, tw_720, tw_139, tw_721⟩ d_Days_passOne_109 (by decide) (by decide)) d_Days_passOne_112 rfl (e_min (p1 := 122) (p2 := 126) (e_iald (p1 := 117) (p2 := 121) (e_aload (k0 := 8) d_Days_passOne_115 rfl) (e_iadd (p1 := 119) (p2 := 120) (e_bipush d_Days_passOne_117 (by decide)) (e_iload_n (k0 := 2) d_Days_passOne_119 rfl rfl) d_Days_passOne_120) d_Days_passOne_121) (e_iadd (p1 := 124) (p2 := 125) (e_iload (k0 := 9) d_Days_passOne_122 rfl) (e_iconst d_Days_passOne_124 (by decide)) d_Days_passOne_125) ⟨tw_1031, tw_723, tw_139, tw_724⟩ d_Days_passOne_126 (by decide) (by decide))) (as_i d_Days_passOne_129)) (s_seq (sl1 := [(0, 1), (1, 1), (2, 1), (3, 1), (4, 1), (5, 1), (6, 1), (7, 1), (8, 1), (9, 1)]) (p1 := 147) (s_if (pt := 135) (pf := 147) (c_if_eqF (p1 := 132) (tg := 147) (e_iload (k0 := 6) d_Days_passOne_130 rfl) d_Days_passOne_132 rfl) (s_ast (p1 := 137) (p2 := 140) (p3 := 146) (e_aload (k0 := 8) d_Days_passOne_135 rfl) (e_iadd (p1 := 138) (p2 := 139) (e_iconst d_Days_passOne_137 (by decide)) (e_iload_n (k0 := 2) d_Days_passOne_138 rfl rfl) d_Days_passOne_139) (e_cI (p1 := 143) (a_cons (ι := Value.ref) (k0 := 1) (p1 := 141) (fun _ => rfl) (e_aload_n (k0 := 1) d_Days_passOne_140 rfl rfl) (a_cons (ι := Value.int) (k0 := 1) (p1 := 142) (fun _ => rfl) (e_iload_n (k0 := 2) d_Days_passOne_141 rfl rfl) (a_cons (ι := Value.int) (k0 := 1) (p1 := 143) (fun _ => rfl) (e_iconst d_Days_passOne_142 (by decide)) a_nil))) (k_virt ok_Scene_roadAt mf_Scene_roadAt ⟨tw_869, tw_870⟩ rfl tw_1032 d_Days_passOne_143 (by decide) (by decide) (by decide))) (as_i d_Days_passOne_146)) s_skip) (s_retV rfl d_Days_passOne_147)))))))))))))
/-! BlinkerCross$Days.pass(LBlinkerCross$Scene;II)V -/
abbrev y_Days_pass : MethodName := ⟨"BlinkerCross$Days", "pass", "(LBlinkerCross$Scene;II)V"⟩
abbrev Y_Days_pass : Yt := (prog_2_method_3_code, 7, "BlinkerCross$Days", 5, none, "pass")
theorem d_Days_pass_0 : decode prog_2_method_3_code 0 = .ok (.iconst 0, 1) := by decide +kernel
theorem d_Days_pass_1 : decode prog_2_method_3_code 1 = .ok (.istore 4, 2) := by decide +kernel
theorem d_Days_pass_3 : decode prog_2_method_3_code 3 = .ok (.iload 4, 2) := by decide +kernel
theorem d_Days_pass_5 : decode prog_2_method_3_code 5 = .ok (.iload_n 2, 1) := by decide +kernel
theorem d_Days_pass_6 : decode prog_2_method_3_code 6 = .ok (.if_icmp .ge 75, 3) := by decide +kernel
theorem d_Days_pass_9 : decode prog_2_method_3_code 9 = .ok (.aload_n 1, 1) := by decide +kernel
theorem d_Days_pass_10 : decode prog_2_method_3_code 10 = .ok (.getfield 28, 3) := by decide +kernel
theorem d_Days_pass_13 : decode prog_2_method_3_code 13 = .ok (.bipush 25, 2) := by decide +kernel
theorem d_Days_pass_15 : decode prog_2_method_3_code 15 = .ok (.iaload, 1) := by decide +kernel
theorem d_Days_pass_16 : decode prog_2_method_3_code 16 = .ok (.istore 5, 2) := by decide +kernel
theorem d_Days_pass_18 : decode prog_2_method_3_code 18 = .ok (.iconst 0, 1) := by decide +kernel
theorem d_Days_pass_19 : decode prog_2_method_3_code 19 = .ok (.istore 6, 2) := by decide +kernel
theorem d_Days_pass_21 : decode prog_2_method_3_code 21 = .ok (.iload 6, 2) := by decide +kernel
theorem d_Days_pass_23 : decode prog_2_method_3_code 23 = .ok (.aload_n 0, 1) := by decide +kernel
theorem d_Days_pass_24 : decode prog_2_method_3_code 24 = .ok (.getfield 9, 3) := by decide +kernel
theorem d_Days_pass_27 : decode prog_2_method_3_code 27 = .ok (.getfield 40, 3) := by decide +kernel
theorem d_Days_pass_30 : decode prog_2_method_3_code 30 = .ok (.if_icmp .ge 30, 3) := by decide +kernel
theorem d_Days_pass_33 : decode prog_2_method_3_code 33 = .ok (.aload_n 0, 1) := by decide +kernel
theorem d_Days_pass_34 : decode prog_2_method_3_code 34 = .ok (.aload_n 1, 1) := by decide +kernel
theorem d_Days_pass_35 : decode prog_2_method_3_code 35 = .ok (.iload 6, 2) := by decide +kernel
theorem d_Days_pass_37 : decode prog_2_method_3_code 37 = .ok (.bipush 100, 2) := by decide +kernel
theorem d_Days_pass_39 : decode prog_2_method_3_code 39 = .ok (.iload_n 3, 1) := by decide +kernel
theorem d_Days_pass_40 : decode prog_2_method_3_code 40 = .ok (.bipush 8, 2) := by decide +kernel
theorem d_Days_pass_42 : decode prog_2_method_3_code 42 = .ok (.iload 5, 2) := by decide +kernel
theorem d_Days_pass_44 : decode prog_2_method_3_code 44 = .ok (.imul, 1) := by decide +kernel
theorem d_Days_pass_45 : decode prog_2_method_3_code 45 = .ok (.iload 6, 2) := by decide +kernel
theorem d_Days_pass_47 : decode prog_2_method_3_code 47 = .ok (.iadd, 1) := by decide +kernel
theorem d_Days_pass_48 : decode prog_2_method_3_code 48 = .ok (.invokestatic 46, 3) := by decide +kernel
theorem d_Days_pass_51 : decode prog_2_method_3_code 51 = .ok (.invokevirtual 50, 3) := by decide +kernel
theorem d_Days_pass_54 : decode prog_2_method_3_code 54 = .ok (.iinc 6 1, 3) := by decide +kernel
theorem d_Days_pass_57 : decode prog_2_method_3_code 57 = .ok (.goto (-36), 3) := by decide +kernel
theorem d_Days_pass_60 : decode prog_2_method_3_code 60 = .ok (.aload_n 1, 1) := by decide +kernel
theorem d_Days_pass_61 : decode prog_2_method_3_code 61 = .ok (.getfield 28, 3) := by decide +kernel
theorem d_Days_pass_64 : decode prog_2_method_3_code 64 = .ok (.bipush 25, 2) := by decide +kernel
theorem d_Days_pass_66 : decode prog_2_method_3_code 66 = .ok (.iload 5, 2) := by decide +kernel
theorem d_Days_pass_68 : decode prog_2_method_3_code 68 = .ok (.iconst 1, 1) := by decide +kernel
theorem d_Days_pass_69 : decode prog_2_method_3_code 69 = .ok (.iadd, 1) := by decide +kernel
theorem d_Days_pass_70 : decode prog_2_method_3_code 70 = .ok (.iastore, 1) := by decide +kernel
theorem d_Days_pass_71 : decode prog_2_method_3_code 71 = .ok (.aload_n 1, 1) := by decide +kernel
theorem d_Days_pass_72 : decode prog_2_method_3_code 72 = .ok (.invokevirtual 53, 3) := by decide +kernel
theorem d_Days_pass_75 : decode prog_2_method_3_code 75 = .ok (.iinc 4 1, 3) := by decide +kernel
theorem d_Days_pass_78 : decode prog_2_method_3_code 78 = .ok (.goto (-75), 3) := by decide +kernel
theorem d_Days_pass_81 : decode prog_2_method_3_code 81 = .ok (.return_, 1) := by decide +kernel
noncomputable def Lc_Days_pass_1 : Xp Bool := o2 (fun x y => decide (x < y)) (vI 6) (gI 2 1 (gR 6 0 (vR 0)))
noncomputable def Lb_Days_pass_1 : Sm := sCall (mV 6 D_Days_passOne) [asV Value.ref (vR 0), asV Value.ref (vR 1), asV Value.int (vI 6), asV Value.int (cI (D_Days_lot) [asV Value.int (kI (ii 100)), asV Value.int (vI 3), asV Value.int (o2 (fun x y => x + y) (o2 (fun x y => x * y) (kI (ii 8)) (vI 5)) (vI 6))])]
noncomputable def Lu_Days_pass_1 : Sm := sInc 6 (ii 1)
noncomputable def Lc_Days_pass_2 : Xp Bool := o2 (fun x y => decide (x < y)) (vI 4) (vI 2)
noncomputable def Lb_Days_pass_2 : Sm := sBlk 5 (sSeq (sDecl (asV Value.int (aI 0 (gR 4 0 (vR 1)) (kI (ii 25))))) (sSeq (sBlk 6 (sSeq (sDecl (asV Value.int (kI (ii 0)))) (sWh (Lc_Days_pass_1) (Lb_Days_pass_1) Lu_Days_pass_1))) (sSeq (sAst 0 (gR 4 0 (vR 1)) (kI (ii 25)) (o2 (fun x y => x + y) (vI 5) (kI (ii 1)))) (sCall (mV 4 D_Scene_choose) [asV Value.ref (vR 1)]))))
noncomputable def Lu_Days_pass_2 : Sm := sInc 4 (ii 1)
noncomputable def F_Days_pass : Sm := sSeq (sBlk 4 (sSeq (sDecl (asV Value.int (kI (ii 0)))) (sWh (Lc_Days_pass_2) (Lb_Days_pass_2) Lu_Days_pass_2))) (sRetV)
theorem mf_Days_pass : Mf y_Days_pass prog_2_method_3_code 7 none 3 := ⟨tw_1009, tw_128, by decide +kernel⟩
noncomputable def D_Days_pass : Dn := runS [1, 1, 1, 1] F_Days_pass
theorem ok_Days_pass : MOK y_Days_pass prog_2_method_3_code 7 none 5 0 0 D_Days_pass := MOK.of (by decide) (by decide) (show SO Y_Days_pass [(0, 1), (1, 1), (2, 1), (3, 1)] [(0, 1), (1, 1), (2, 1), (3, 1)] 0 82 (([], 0), ([], 0)) F_Days_pass from
  (s_seq (sl1 := [(0, 1), (1, 1), (2, 1), (3, 1)]) (p1 := 81) (s_blk (sl1 := [(0, 1), (1, 1), (2, 1), (3, 1), (4, 1)]) (s_seq (sl1 := [(0, 1), (1, 1), (2, 1), (3, 1), (4, 1)]) (p1 := 3) (s_decl (p1 := 1) (e_iconst d_Days_pass_0 (by decide)) (t_istore d_Days_pass_1 (by decide)) rfl) (s_for (pt := 9) (pu := 75) (pf := 81) (pg := 0) (c_icmp_geF (p1 := 5) (p2 := 6) (tg := 81) (e_iload (k0 := 4) d_Days_pass_3 rfl) (e_iload_n (k0 := 2) d_Days_pass_5 rfl rfl) d_Days_pass_6 rfl) (s_blk (sl1 := [(0, 1), (1, 1), (2, 1), (3, 1), (4, 1), (5, 1)]) (s_seq (sl1 := [(0, 1), (1, 1), (2, 1), (3, 1), (4, 1), (5, 1)]) (p1 := 18) (s_decl (p1 := 16) (e_iald (p1 := 13) (p2 := 15) (e_gR (k0 := 0) (p1 := 10) cf_4 (e_aload_n (k0 := 1) d_Days_pass_9 rfl rfl) (by decide) tw_317 d_Days_pass_10) (e_bipush d_Days_pass_13 (by decide)) d_Days_pass_15) (t_istore d_Days_pass_16 (by decide)) rfl) (s_seq (sl1 := [(0, 1), (1, 1), (2, 1), (3, 1), (4, 1), (5, 1)]) (p1 := 60) (s_blk (sl1 := [(0, 1), (1, 1), (2, 1), (3, 1), (4, 1), (5, 1), (6, 1)]) (s_seq (sl1 := [(0, 1), (1, 1), (2, 1), (3, 1), (4, 1), (5, 1), (6, 1)]) (p1 := 21) (s_decl (p1 := 19) (e_iconst d_Days_pass_18 (by decide)) (t_istore d_Days_pass_19 (by decide)) rfl) (s_for (pt := 33) (pu := 54) (pf := 60) (pg := 0) (c_icmp_geF (p1 := 23) (p2 := 30) (tg := 60) (e_iload (k0 := 6) d_Days_pass_21 rfl) (e_gI (k0 := 1) (p1 := 27) cf_2 (e_gR (k0 := 0) (p1 := 24) cf_6 (e_aload_n (k0 := 0) d_Days_pass_23 rfl rfl) (by decide) tw_369 d_Days_pass_24) (by decide) tw_209 d_Days_pass_27) d_Days_pass_30 rfl) (s_call (p1 := 51) (a_cons (ι := Value.ref) (k0 := 1) (p1 := 34) (fun _ => rfl) (e_aload_n (k0 := 0) d_Days_pass_33 rfl rfl) (a_cons (ι := Value.ref) (k0 := 1) (p1 := 35) (fun _ => rfl) (e_aload_n (k0 := 1) d_Days_pass_34 rfl rfl) (a_cons (ι := Value.int) (k0 := 1) (p1 := 37) (fun _ => rfl) (e_iload (k0 := 6) d_Days_pass_35 rfl) (a_cons (ι := Value.int) (k0 := 1) (p1 := 51) (fun _ => rfl) (e_cI (p1 := 48) (a_cons (ι := Value.int) (k0 := 1) (p1 := 39) (fun _ => rfl) (e_bipush d_Days_pass_37 (by decide)) (a_cons (ι := Value.int) (k0 := 1) (p1 := 40) (fun _ => rfl) (e_iload_n (k0 := 3) d_Days_pass_39 rfl rfl) (a_cons (ι := Value.int) (k0 := 1) (p1 := 48) (fun _ => rfl) (e_iadd (p1 := 45) (p2 := 47) (e_imul (p1 := 42) (p2 := 44) (e_bipush d_Days_pass_40 (by decide)) (e_iload (k0 := 5) d_Days_pass_42 rfl) d_Days_pass_44) (e_iload (k0 := 6) d_Days_pass_45 rfl) d_Days_pass_47) a_nil))) (k_stat ok_Days_lot mf_Days_lot tw_1011 tw_1010 d_Days_pass_48 (by decide) (by decide) (by decide))) a_nil)))) (k_virt ok_Days_passOne mf_Days_passOne ⟨tw_1019, tw_27⟩ rfl tw_1017 d_Days_pass_51 (by decide) (by decide) (by decide))) (s_goto (p1 := 57) (s_inc (k0 := 6) d_Days_pass_54 rfl rfl (Nat.le_of_ble_eq_true rfl) rfl) d_Days_pass_57 rfl))) rfl) (s_seq (sl1 := [(0, 1), (1, 1), (2, 1), (3, 1), (4, 1), (5, 1)]) (p1 := 71) (s_ast (p1 := 64) (p2 := 66) (p3 := 70) (e_gR (k0 := 0) (p1 := 61) cf_4 (e_aload_n (k0 := 1) d_Days_pass_60 rfl rfl) (by decide) tw_317 d_Days_pass_61) (e_bipush d_Days_pass_64 (by decide)) (e_iadd (p1 := 68) (p2 := 69) (e_iload (k0 := 5) d_Days_pass_66 rfl) (e_iconst d_Days_pass_68 (by decide)) d_Days_pass_69) (as_i d_Days_pass_70)) (s_call (p1 := 72) (a_cons (ι := Value.ref) (k0 := 1) (p1 := 72) (fun _ => rfl) (e_aload_n (k0 := 1) d_Days_pass_71 rfl rfl) a_nil) (k_virt ok_Scene_choose mf_Scene_choose ⟨tw_861, tw_862⟩ rfl tw_1033 d_Days_pass_72 (by decide) (by decide) (by decide)))))) rfl) (s_goto (p1 := 78) (s_inc (k0 := 4) d_Days_pass_75 rfl rfl (Nat.le_of_ble_eq_true rfl) rfl) d_Days_pass_78 rfl))) rfl) (s_retV rfl d_Days_pass_81)))
/-! BlinkerCross$Days.inDays(LBlinkerCross$Scene;II)LBlinkerCross$Scene; -/
abbrev y_Days_inDays : MethodName := ⟨"BlinkerCross$Days", "inDays", "(LBlinkerCross$Scene;II)LBlinkerCross$Scene;"⟩
abbrev Y_Days_inDays : Yt := (prog_2_method_2_code, 4, "BlinkerCross$Days", 6, (some (.object "BlinkerCross$Scene")), "inDays")
theorem d_Days_inDays_0 : decode prog_2_method_2_code 0 = .ok (.aload_n 0, 1) := by decide +kernel
theorem d_Days_inDays_1 : decode prog_2_method_2_code 1 = .ok (.getfield 24, 3) := by decide +kernel
theorem d_Days_inDays_4 : decode prog_2_method_2_code 4 = .ok (.aload_n 1, 1) := by decide +kernel
theorem d_Days_inDays_5 : decode prog_2_method_2_code 5 = .ok (.getfield 28, 3) := by decide +kernel
theorem d_Days_inDays_8 : decode prog_2_method_2_code 8 = .ok (.invokevirtual 32, 3) := by decide +kernel
theorem d_Days_inDays_11 : decode prog_2_method_2_code 11 = .ok (.aload_n 0, 1) := by decide +kernel
theorem d_Days_inDays_12 : decode prog_2_method_2_code 12 = .ok (.aload_n 0, 1) := by decide +kernel
theorem d_Days_inDays_13 : decode prog_2_method_2_code 13 = .ok (.getfield 24, 3) := by decide +kernel
theorem d_Days_inDays_16 : decode prog_2_method_2_code 16 = .ok (.iload_n 2, 1) := by decide +kernel
theorem d_Days_inDays_17 : decode prog_2_method_2_code 17 = .ok (.iload_n 3, 1) := by decide +kernel
theorem d_Days_inDays_18 : decode prog_2_method_2_code 18 = .ok (.invokevirtual 36, 3) := by decide +kernel
theorem d_Days_inDays_21 : decode prog_2_method_2_code 21 = .ok (.aload_n 0, 1) := by decide +kernel
theorem d_Days_inDays_22 : decode prog_2_method_2_code 22 = .ok (.getfield 24, 3) := by decide +kernel
theorem d_Days_inDays_25 : decode prog_2_method_2_code 25 = .ok (.areturn, 1) := by decide +kernel
noncomputable def F_Days_inDays : Sm := sSeq (sCall (mV 4 D_Scene_become) [asV Value.ref (gR 6 2 (vR 0)), asV Value.ref (gR 4 0 (vR 1))]) (sSeq (sCall (mV 6 D_Days_pass) [asV Value.ref (vR 0), asV Value.ref (gR 6 2 (vR 0)), asV Value.int (vI 2), asV Value.int (vI 3)]) (sRet (asV Value.ref (gR 6 2 (vR 0)))))
theorem mf_Days_inDays : Mf y_Days_inDays prog_2_method_2_code 4 (some (.object "BlinkerCross$Scene")) 3 := ⟨tw_1224, tw_128, by decide +kernel⟩
noncomputable def D_Days_inDays : Dn := runS [1, 1, 1, 1] F_Days_inDays
theorem ok_Days_inDays : MOK y_Days_inDays prog_2_method_2_code 4 (some (.object "BlinkerCross$Scene")) 6 0 0 D_Days_inDays := MOK.of (by decide) (by decide) (show SO Y_Days_inDays [(0, 1), (1, 1), (2, 1), (3, 1)] [(0, 1), (1, 1), (2, 1), (3, 1)] 0 26 (([], 0), ([], 0)) F_Days_inDays from
  (s_seq (sl1 := [(0, 1), (1, 1), (2, 1), (3, 1)]) (p1 := 11) (s_call (p1 := 8) (a_cons (ι := Value.ref) (k0 := 1) (p1 := 4) (fun _ => rfl) (e_gR (k0 := 2) (p1 := 1) cf_6 (e_aload_n (k0 := 0) d_Days_inDays_0 rfl rfl) (by decide) tw_371 d_Days_inDays_1) (a_cons (ι := Value.ref) (k0 := 1) (p1 := 8) (fun _ => rfl) (e_gR (k0 := 0) (p1 := 5) cf_4 (e_aload_n (k0 := 1) d_Days_inDays_4 rfl rfl) (by decide) tw_317 d_Days_inDays_5) a_nil)) (k_virt ok_Scene_become mf_Scene_become ⟨tw_1043, tw_1044⟩ rfl tw_1225 d_Days_inDays_8 (by decide) (by decide) (by decide))) (s_seq (sl1 := [(0, 1), (1, 1), (2, 1), (3, 1)]) (p1 := 21) (s_call (p1 := 18) (a_cons (ι := Value.ref) (k0 := 1) (p1 := 12) (fun _ => rfl) (e_aload_n (k0 := 0) d_Days_inDays_11 rfl rfl) (a_cons (ι := Value.ref) (k0 := 1) (p1 := 16) (fun _ => rfl) (e_gR (k0 := 2) (p1 := 13) cf_6 (e_aload_n (k0 := 0) d_Days_inDays_12 rfl rfl) (by decide) tw_371 d_Days_inDays_13) (a_cons (ι := Value.int) (k0 := 1) (p1 := 17) (fun _ => rfl) (e_iload_n (k0 := 2) d_Days_inDays_16 rfl rfl) (a_cons (ι := Value.int) (k0 := 1) (p1 := 18) (fun _ => rfl) (e_iload_n (k0 := 3) d_Days_inDays_17 rfl rfl) a_nil)))) (k_virt ok_Days_pass mf_Days_pass ⟨tw_1007, tw_1008⟩ rfl tw_1226 d_Days_inDays_18 (by decide) (by decide) (by decide))) (s_retR (p1 := 25) (e_gR (k0 := 2) (p1 := 22) cf_6 (e_aload_n (k0 := 0) d_Days_inDays_21 rfl rfl) (by decide) tw_371 d_Days_inDays_22) rfl d_Days_inDays_25))))

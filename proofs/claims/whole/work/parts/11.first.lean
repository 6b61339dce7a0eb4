/-! Methods: bytes, denotations, that the bytes do so (written by wip/whole/jgen.py). -/
/-! BlinkerCross.heldTo(II)I -/
abbrev y_X_heldTo : MethodName := ⟨"BlinkerCross", "heldTo", "(II)I"⟩
abbrev Y_X_heldTo : Yt := (prog_1_method_42_code, 2, "BlinkerCross", 1, (some .int), "heldTo")
theorem d_X_heldTo_0 : decode prog_1_method_42_code 0 = .ok (.iconst 0, 1) := by decide +kernel
theorem d_X_heldTo_1 : decode prog_1_method_42_code 1 = .ok (.iload_n 1, 1) := by decide +kernel
theorem d_X_heldTo_2 : decode prog_1_method_42_code 2 = .ok (.iload_n 0, 1) := by decide +kernel
theorem d_X_heldTo_3 : decode prog_1_method_42_code 3 = .ok (.invokestatic 322, 3) := by decide +kernel
theorem d_X_heldTo_6 : decode prog_1_method_42_code 6 = .ok (.invokestatic 317, 3) := by decide +kernel
theorem d_X_heldTo_9 : decode prog_1_method_42_code 9 = .ok (.ireturn, 1) := by decide +kernel
noncomputable def F_X_heldTo : Sm := sRet (asV Value.int (o2 (fun x y => if x < y then y else x) (kI (ii 0)) (o2 (fun x y => if y < x then y else x) (vI 1) (vI 0))))
theorem mf_X_heldTo : Mf y_X_heldTo prog_1_method_42_code 2 (some .int) 2 := ⟨tw_945, tw_122, by decide +kernel⟩
noncomputable def D_X_heldTo : Dn := runS [1, 1] F_X_heldTo
theorem ok_X_heldTo : MOK y_X_heldTo prog_1_method_42_code 2 (some .int) 1 0 0 D_X_heldTo := MOK.of (by decide) (by decide) (show SO Y_X_heldTo [(0, 1), (1, 1)] [(0, 1), (1, 1)] 0 10 (([], 0), ([], 0)) F_X_heldTo from
  (s_ret (p1 := 9) (e_max (p1 := 1) (p2 := 6) (e_iconst d_X_heldTo_0 (by decide)) (e_min (p1 := 2) (p2 := 3) (e_iload_n (k0 := 1) d_X_heldTo_1 rfl rfl) (e_iload_n (k0 := 0) d_X_heldTo_2 rfl rfl) ⟨tw_946, tw_723, tw_139, tw_724⟩ d_X_heldTo_3 (by decide) (by decide)) ⟨tw_947, tw_720, tw_139, tw_721⟩ d_X_heldTo_6 (by decide) (by decide)) rfl d_X_heldTo_9))
/-! java/lang/Integer.bitCount(I)I -/
abbrev y_Integer_bitCount : MethodName := ⟨"java/lang/Integer", "bitCount", "(I)I"⟩
abbrev Y_Integer_bitCount : Yt := (prog_16_method_49_code, 1, "java/lang/Integer", 0, (some .int), "bitCount")
theorem d_Integer_bitCount_0 : decode prog_16_method_49_code 0 = .ok (.iload_n 0, 1) := by decide +kernel
theorem d_Integer_bitCount_1 : decode prog_16_method_49_code 1 = .ok (.iload_n 0, 1) := by decide +kernel
theorem d_Integer_bitCount_2 : decode prog_16_method_49_code 2 = .ok (.iconst 1, 1) := by decide +kernel
theorem d_Integer_bitCount_3 : decode prog_16_method_49_code 3 = .ok (.iushr, 1) := by decide +kernel
theorem d_Integer_bitCount_4 : decode prog_16_method_49_code 4 = .ok (.ldc_w 265, 3) := by decide +kernel
theorem d_Integer_bitCount_7 : decode prog_16_method_49_code 7 = .ok (.iand, 1) := by decide +kernel
theorem d_Integer_bitCount_8 : decode prog_16_method_49_code 8 = .ok (.isub, 1) := by decide +kernel
theorem d_Integer_bitCount_9 : decode prog_16_method_49_code 9 = .ok (.istore_n 0, 1) := by decide +kernel
theorem d_Integer_bitCount_10 : decode prog_16_method_49_code 10 = .ok (.iload_n 0, 1) := by decide +kernel
theorem d_Integer_bitCount_11 : decode prog_16_method_49_code 11 = .ok (.ldc_w 266, 3) := by decide +kernel
theorem d_Integer_bitCount_14 : decode prog_16_method_49_code 14 = .ok (.iand, 1) := by decide +kernel
theorem d_Integer_bitCount_15 : decode prog_16_method_49_code 15 = .ok (.iload_n 0, 1) := by decide +kernel
theorem d_Integer_bitCount_16 : decode prog_16_method_49_code 16 = .ok (.iconst 2, 1) := by decide +kernel
theorem d_Integer_bitCount_17 : decode prog_16_method_49_code 17 = .ok (.iushr, 1) := by decide +kernel
theorem d_Integer_bitCount_18 : decode prog_16_method_49_code 18 = .ok (.ldc_w 266, 3) := by decide +kernel
theorem d_Integer_bitCount_21 : decode prog_16_method_49_code 21 = .ok (.iand, 1) := by decide +kernel
theorem d_Integer_bitCount_22 : decode prog_16_method_49_code 22 = .ok (.iadd, 1) := by decide +kernel
theorem d_Integer_bitCount_23 : decode prog_16_method_49_code 23 = .ok (.istore_n 0, 1) := by decide +kernel
theorem d_Integer_bitCount_24 : decode prog_16_method_49_code 24 = .ok (.iload_n 0, 1) := by decide +kernel
theorem d_Integer_bitCount_25 : decode prog_16_method_49_code 25 = .ok (.iload_n 0, 1) := by decide +kernel
theorem d_Integer_bitCount_26 : decode prog_16_method_49_code 26 = .ok (.iconst 4, 1) := by decide +kernel
theorem d_Integer_bitCount_27 : decode prog_16_method_49_code 27 = .ok (.iushr, 1) := by decide +kernel
theorem d_Integer_bitCount_28 : decode prog_16_method_49_code 28 = .ok (.iadd, 1) := by decide +kernel
theorem d_Integer_bitCount_29 : decode prog_16_method_49_code 29 = .ok (.ldc_w 267, 3) := by decide +kernel
theorem d_Integer_bitCount_32 : decode prog_16_method_49_code 32 = .ok (.iand, 1) := by decide +kernel
theorem d_Integer_bitCount_33 : decode prog_16_method_49_code 33 = .ok (.istore_n 0, 1) := by decide +kernel
theorem d_Integer_bitCount_34 : decode prog_16_method_49_code 34 = .ok (.iload_n 0, 1) := by decide +kernel
theorem d_Integer_bitCount_35 : decode prog_16_method_49_code 35 = .ok (.iload_n 0, 1) := by decide +kernel
theorem d_Integer_bitCount_36 : decode prog_16_method_49_code 36 = .ok (.bipush 8, 2) := by decide +kernel
theorem d_Integer_bitCount_38 : decode prog_16_method_49_code 38 = .ok (.iushr, 1) := by decide +kernel
theorem d_Integer_bitCount_39 : decode prog_16_method_49_code 39 = .ok (.iadd, 1) := by decide +kernel
theorem d_Integer_bitCount_40 : decode prog_16_method_49_code 40 = .ok (.istore_n 0, 1) := by decide +kernel
theorem d_Integer_bitCount_41 : decode prog_16_method_49_code 41 = .ok (.iload_n 0, 1) := by decide +kernel
theorem d_Integer_bitCount_42 : decode prog_16_method_49_code 42 = .ok (.iload_n 0, 1) := by decide +kernel
theorem d_Integer_bitCount_43 : decode prog_16_method_49_code 43 = .ok (.bipush 16, 2) := by decide +kernel
theorem d_Integer_bitCount_45 : decode prog_16_method_49_code 45 = .ok (.iushr, 1) := by decide +kernel
theorem d_Integer_bitCount_46 : decode prog_16_method_49_code 46 = .ok (.iadd, 1) := by decide +kernel
theorem d_Integer_bitCount_47 : decode prog_16_method_49_code 47 = .ok (.istore_n 0, 1) := by decide +kernel
theorem d_Integer_bitCount_48 : decode prog_16_method_49_code 48 = .ok (.iload_n 0, 1) := by decide +kernel
theorem d_Integer_bitCount_49 : decode prog_16_method_49_code 49 = .ok (.bipush 63, 2) := by decide +kernel
theorem d_Integer_bitCount_51 : decode prog_16_method_49_code 51 = .ok (.iand, 1) := by decide +kernel
theorem d_Integer_bitCount_52 : decode prog_16_method_49_code 52 = .ok (.ireturn, 1) := by decide +kernel
noncomputable def F_Integer_bitCount : Sm := sSeq (sSet 0 (asV Value.int (o2 (fun x y => x - y) (vI 0) (o2 (fun x y => x &&& y) (o2 (fun x y => (x.toUInt32 >>> (y.toUInt32 &&& Int32.toUInt32 31)).toInt32) (vI 0) (kI (ii 1))) (kI (ii 1431655765)))))) (sSeq (sSet 0 (asV Value.int (o2 (fun x y => x + y) (o2 (fun x y => x &&& y) (vI 0) (kI (ii 858993459))) (o2 (fun x y => x &&& y) (o2 (fun x y => (x.toUInt32 >>> (y.toUInt32 &&& Int32.toUInt32 31)).toInt32) (vI 0) (kI (ii 2))) (kI (ii 858993459)))))) (sSeq (sSet 0 (asV Value.int (o2 (fun x y => x &&& y) (o2 (fun x y => x + y) (vI 0) (o2 (fun x y => (x.toUInt32 >>> (y.toUInt32 &&& Int32.toUInt32 31)).toInt32) (vI 0) (kI (ii 4)))) (kI (ii 252645135))))) (sSeq (sSet 0 (asV Value.int (o2 (fun x y => x + y) (vI 0) (o2 (fun x y => (x.toUInt32 >>> (y.toUInt32 &&& Int32.toUInt32 31)).toInt32) (vI 0) (kI (ii 8)))))) (sSeq (sSet 0 (asV Value.int (o2 (fun x y => x + y) (vI 0) (o2 (fun x y => (x.toUInt32 >>> (y.toUInt32 &&& Int32.toUInt32 31)).toInt32) (vI 0) (kI (ii 16)))))) (sRet (asV Value.int (o2 (fun x y => x &&& y) (vI 0) (kI (ii 63)))))))))
theorem mf_Integer_bitCount : Mf y_Integer_bitCount prog_16_method_49_code 1 (some .int) 1 := ⟨tw_1268, tw_142, by decide +kernel⟩
noncomputable def D_Integer_bitCount : Dn := runS [1] F_Integer_bitCount
theorem ok_Integer_bitCount : MOK y_Integer_bitCount prog_16_method_49_code 1 (some .int) 0 0 0 D_Integer_bitCount := MOK.of (by decide) (by decide) (show SO Y_Integer_bitCount [(0, 1)] [(0, 1)] 0 53 (([], 0), ([], 0)) F_Integer_bitCount from
  (s_seq (sl1 := [(0, 1)]) (p1 := 10) (s_set (k0 := 0) (p1 := 9) (e_isub (p1 := 1) (p2 := 8) (e_iload_n (k0 := 0) d_Integer_bitCount_0 rfl rfl) (e_iand (p1 := 4) (p2 := 7) (e_iushr (p1 := 2) (p2 := 3) (e_iload_n (k0 := 0) d_Integer_bitCount_1 rfl rfl) (e_iconst d_Integer_bitCount_2 (by decide)) d_Integer_bitCount_3) (e_ldcw d_Integer_bitCount_4 tw_1269) d_Integer_bitCount_7) d_Integer_bitCount_8) (t_istore_n d_Integer_bitCount_9 rfl (by decide)) rfl rfl) (s_seq (sl1 := [(0, 1)]) (p1 := 24) (s_set (k0 := 0) (p1 := 23) (e_iadd (p1 := 15) (p2 := 22) (e_iand (p1 := 11) (p2 := 14) (e_iload_n (k0 := 0) d_Integer_bitCount_10 rfl rfl) (e_ldcw d_Integer_bitCount_11 tw_1270) d_Integer_bitCount_14) (e_iand (p1 := 18) (p2 := 21) (e_iushr (p1 := 16) (p2 := 17) (e_iload_n (k0 := 0) d_Integer_bitCount_15 rfl rfl) (e_iconst d_Integer_bitCount_16 (by decide)) d_Integer_bitCount_17) (e_ldcw d_Integer_bitCount_18 tw_1270) d_Integer_bitCount_21) d_Integer_bitCount_22) (t_istore_n d_Integer_bitCount_23 rfl (by decide)) rfl rfl) (s_seq (sl1 := [(0, 1)]) (p1 := 34) (s_set (k0 := 0) (p1 := 33) (e_iand (p1 := 29) (p2 := 32) (e_iadd (p1 := 25) (p2 := 28) (e_iload_n (k0 := 0) d_Integer_bitCount_24 rfl rfl) (e_iushr (p1 := 26) (p2 := 27) (e_iload_n (k0 := 0) d_Integer_bitCount_25 rfl rfl) (e_iconst d_Integer_bitCount_26 (by decide)) d_Integer_bitCount_27) d_Integer_bitCount_28) (e_ldcw d_Integer_bitCount_29 tw_1271) d_Integer_bitCount_32) (t_istore_n d_Integer_bitCount_33 rfl (by decide)) rfl rfl) (s_seq (sl1 := [(0, 1)]) (p1 := 41) (s_set (k0 := 0) (p1 := 40) (e_iadd (p1 := 35) (p2 := 39) (e_iload_n (k0 := 0) d_Integer_bitCount_34 rfl rfl) (e_iushr (p1 := 36) (p2 := 38) (e_iload_n (k0 := 0) d_Integer_bitCount_35 rfl rfl) (e_bipush d_Integer_bitCount_36 (by decide)) d_Integer_bitCount_38) d_Integer_bitCount_39) (t_istore_n d_Integer_bitCount_40 rfl (by decide)) rfl rfl) (s_seq (sl1 := [(0, 1)]) (p1 := 48) (s_set (k0 := 0) (p1 := 47) (e_iadd (p1 := 42) (p2 := 46) (e_iload_n (k0 := 0) d_Integer_bitCount_41 rfl rfl) (e_iushr (p1 := 43) (p2 := 45) (e_iload_n (k0 := 0) d_Integer_bitCount_42 rfl rfl) (e_bipush d_Integer_bitCount_43 (by decide)) d_Integer_bitCount_45) d_Integer_bitCount_46) (t_istore_n d_Integer_bitCount_47 rfl (by decide)) rfl rfl) (s_ret (p1 := 52) (e_iand (p1 := 49) (p2 := 51) (e_iload_n (k0 := 0) d_Integer_bitCount_48 rfl rfl) (e_bipush d_Integer_bitCount_49 (by decide)) d_Integer_bitCount_51) rfl d_Integer_bitCount_52)))))))

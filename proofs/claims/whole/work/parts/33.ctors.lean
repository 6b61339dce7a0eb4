/-! Constructors (written by wip/whole/jinit.py). -/
abbrev df_0 : List Value := [.null, .null, .null, .null, .null, .null, .null, .null, .null, .null, .null]
theorem dfs_0 : ∀ b j, j < 11 → defaultValue (cY_0 j) = vp_V (df_0.map (cv b)) j := by
  intro b j hj
  have : j = 0 ∨ j = 1 ∨ j = 2 ∨ j = 3 ∨ j = 4 ∨ j = 5 ∨ j = 6 ∨ j = 7 ∨ j = 8 ∨ j = 9 ∨ j = 10 := by omega
  rcases this with rfl | rfl | rfl | rfl | rfl | rfl | rfl | rfl | rfl | rfl | rfl <;> rfl
abbrev df_1 : List Value := [.null, .int 0, .null, .null, .null]
theorem dfs_1 : ∀ b j, j < 5 → defaultValue (cY_1 j) = vp_V (df_1.map (cv b)) j := by
  intro b j hj
  have : j = 0 ∨ j = 1 ∨ j = 2 ∨ j = 3 ∨ j = 4 := by omega
  rcases this with rfl | rfl | rfl | rfl | rfl <;> rfl
abbrev df_2 : List Value := [.int 0, .int 0, .int 0, .null, .null, .null, .null, .null, .null, .null, .int 0]
theorem dfs_2 : ∀ b j, j < 11 → defaultValue (cY_2 j) = vp_V (df_2.map (cv b)) j := by
  intro b j hj
  have : j = 0 ∨ j = 1 ∨ j = 2 ∨ j = 3 ∨ j = 4 ∨ j = 5 ∨ j = 6 ∨ j = 7 ∨ j = 8 ∨ j = 9 ∨ j = 10 := by omega
  rcases this with rfl | rfl | rfl | rfl | rfl | rfl | rfl | rfl | rfl | rfl | rfl <;> rfl
abbrev df_3 : List Value := [.null, .int 0, .null, .null, .null, .int 0, .int 0, .int 0, .int 0, .int 0, .int 0, .int 0]
theorem dfs_3 : ∀ b j, j < 12 → defaultValue (cY_3 j) = vp_V (df_3.map (cv b)) j := by
  intro b j hj
  have : j = 0 ∨ j = 1 ∨ j = 2 ∨ j = 3 ∨ j = 4 ∨ j = 5 ∨ j = 6 ∨ j = 7 ∨ j = 8 ∨ j = 9 ∨ j = 10 ∨ j = 11 := by omega
  rcases this with rfl | rfl | rfl | rfl | rfl | rfl | rfl | rfl | rfl | rfl | rfl | rfl <;> rfl
abbrev df_4 : List Value := [.null, .null, .null, .int 0, .null]
theorem dfs_4 : ∀ b j, j < 5 → defaultValue (cY_4 j) = vp_V (df_4.map (cv b)) j := by
  intro b j hj
  have : j = 0 ∨ j = 1 ∨ j = 2 ∨ j = 3 ∨ j = 4 := by omega
  rcases this with rfl | rfl | rfl | rfl | rfl <;> rfl
abbrev df_5 : List Value := [.null, .null, .null]
theorem dfs_5 : ∀ b j, j < 3 → defaultValue (cY_5 j) = vp_V (df_5.map (cv b)) j := by
  intro b j hj
  have : j = 0 ∨ j = 1 ∨ j = 2 := by omega
  rcases this with rfl | rfl | rfl <;> rfl
abbrev df_6 : List Value := [.null, .null, .null]
theorem dfs_6 : ∀ b j, j < 3 → defaultValue (cY_6 j) = vp_V (df_6.map (cv b)) j := by
  intro b j hj
  have : j = 0 ∨ j = 1 ∨ j = 2 := by omega
  rcases this with rfl | rfl | rfl <;> rfl
abbrev df_7 : List Value := [.int 0, .int 0, .int 0, .null, .null, .null, .null, .null, .null, .null, .null, .null, .int 0, .int 0]
theorem dfs_7 : ∀ b j, j < 14 → defaultValue (cY_7 j) = vp_V (df_7.map (cv b)) j := by
  intro b j hj
  have : j = 0 ∨ j = 1 ∨ j = 2 ∨ j = 3 ∨ j = 4 ∨ j = 5 ∨ j = 6 ∨ j = 7 ∨ j = 8 ∨ j = 9 ∨ j = 10 ∨ j = 11 ∨ j = 12 ∨ j = 13 := by omega
  rcases this with rfl | rfl | rfl | rfl | rfl | rfl | rfl | rfl | rfl | rfl | rfl | rfl | rfl | rfl <;> rfl
abbrev df_8 : List Value := [.int 0, .int 0, .int 0, .null, .null, .null, .null, .null, .null, .null, .null, .null, .int 0, .int 0, .int 0]
theorem dfs_8 : ∀ b j, j < 15 → defaultValue (cY_8 j) = vp_V (df_8.map (cv b)) j := by
  intro b j hj
  have : j = 0 ∨ j = 1 ∨ j = 2 ∨ j = 3 ∨ j = 4 ∨ j = 5 ∨ j = 6 ∨ j = 7 ∨ j = 8 ∨ j = 9 ∨ j = 10 ∨ j = 11 ∨ j = 12 ∨ j = 13 ∨ j = 14 := by omega
  rcases this with rfl | rfl | rfl | rfl | rfl | rfl | rfl | rfl | rfl | rfl | rfl | rfl | rfl | rfl | rfl <;> rfl
abbrev df_9 : List Value := [.null, .null, .null, .null]
theorem dfs_9 : ∀ b j, j < 4 → defaultValue (cY_9 j) = vp_V (df_9.map (cv b)) j := by
  intro b j hj
  have : j = 0 ∨ j = 1 ∨ j = 2 ∨ j = 3 := by omega
  rcases this with rfl | rfl | rfl | rfl <;> rfl
abbrev df_10 : List Value := [.int 0, .null, .null, .null, .null, .null, .null]
theorem dfs_10 : ∀ b j, j < 7 → defaultValue (cY_10 j) = vp_V (df_10.map (cv b)) j := by
  intro b j hj
  have : j = 0 ∨ j = 1 ∨ j = 2 ∨ j = 3 ∨ j = 4 ∨ j = 5 ∨ j = 6 := by omega
  rcases this with rfl | rfl | rfl | rfl | rfl | rfl | rfl <;> rfl
abbrev df_11 : List Value := [.int 0, .null, .int 0, .null, .null]
theorem dfs_11 : ∀ b j, j < 5 → defaultValue (cY_11 j) = vp_V (df_11.map (cv b)) j := by
  intro b j hj
  have : j = 0 ∨ j = 1 ∨ j = 2 ∨ j = 3 ∨ j = 4 := by omega
  rcases this with rfl | rfl | rfl | rfl | rfl <;> rfl
abbrev df_12 : List Value := [.int 0, .null, .int 0, .null, .int 0, .null, .null, .null, .null, .null, .int 0, .int 0, .int 0, .int 0, .int 0, .int 0, .int 0, .int 0, .int 0, .int 0, .int 0, .null, .null, .null, .null, .null, .null, .null, .null, .null, .null, .null, .null, .int 0, .null, .null, .null, .null, .null, .int 0, .null, .null, .null, .int 0, .null, .null, .int 0, .null, .null, .int 0, .int 0, .int 0, .null, .null, .null, .null, .null, .int 0, .null, .int 0, .int 0, .int 0, .null, .null, .null, .null, .null, .int 0, .null, .null, .null, .null, .null]
theorem dfs_12 : ∀ b j, j < 73 → defaultValue (cY_12 j) = vp_V (df_12.map (cv b)) j := by
  intro b j hj
  have : j = 0 ∨ j = 1 ∨ j = 2 ∨ j = 3 ∨ j = 4 ∨ j = 5 ∨ j = 6 ∨ j = 7 ∨ j = 8 ∨ j = 9 ∨ j = 10 ∨ j = 11 ∨ j = 12 ∨ j = 13 ∨ j = 14 ∨ j = 15 ∨ j = 16 ∨ j = 17 ∨ j = 18 ∨ j = 19 ∨ j = 20 ∨ j = 21 ∨ j = 22 ∨ j = 23 ∨ j = 24 ∨ j = 25 ∨ j = 26 ∨ j = 27 ∨ j = 28 ∨ j = 29 ∨ j = 30 ∨ j = 31 ∨ j = 32 ∨ j = 33 ∨ j = 34 ∨ j = 35 ∨ j = 36 ∨ j = 37 ∨ j = 38 ∨ j = 39 ∨ j = 40 ∨ j = 41 ∨ j = 42 ∨ j = 43 ∨ j = 44 ∨ j = 45 ∨ j = 46 ∨ j = 47 ∨ j = 48 ∨ j = 49 ∨ j = 50 ∨ j = 51 ∨ j = 52 ∨ j = 53 ∨ j = 54 ∨ j = 55 ∨ j = 56 ∨ j = 57 ∨ j = 58 ∨ j = 59 ∨ j = 60 ∨ j = 61 ∨ j = 62 ∨ j = 63 ∨ j = 64 ∨ j = 65 ∨ j = 66 ∨ j = 67 ∨ j = 68 ∨ j = 69 ∨ j = 70 ∨ j = 71 ∨ j = 72 := by omega
  rcases this with rfl | rfl | rfl | rfl | rfl | rfl | rfl | rfl | rfl | rfl | rfl | rfl | rfl | rfl | rfl | rfl | rfl | rfl | rfl | rfl | rfl | rfl | rfl | rfl | rfl | rfl | rfl | rfl | rfl | rfl | rfl | rfl | rfl | rfl | rfl | rfl | rfl | rfl | rfl | rfl | rfl | rfl | rfl | rfl | rfl | rfl | rfl | rfl | rfl | rfl | rfl | rfl | rfl | rfl | rfl | rfl | rfl | rfl | rfl | rfl | rfl | rfl | rfl | rfl | rfl | rfl | rfl | rfl | rfl | rfl | rfl | rfl | rfl <;> rfl
theorem ak_i (n : Nat) (h : n * componentBytes .int ≤ 536870912) : Ak 0 .int .int n (n, .inl (fun _ => 0)) := ⟨rfl, fun _ => rfl, fun _ _ h => h, fun _ => rfl, fun _ => rfl, tw_176, h⟩
theorem ak_b (n : Nat) (h : n * componentBytes .byte ≤ 536870912) : Ak 1 .byte .byte n (n, .inl (fun _ => 0)) := ⟨rfl, fun _ => rfl, fun _ _ h => h, fun _ => rfl, fun _ => rfl, tw_175, h⟩
theorem ak_l (n : Nat) (h : n * componentBytes .long ≤ 536870912) : Ak 2 .long .long n (n, .inr (.inl (fun _ => 0))) := ⟨rfl, fun _ => rfl, fun _ _ h => h, fun _ => rfl, fun _ => rfl, tw_177, h⟩
theorem ak_z (n : Nat) (h : n * componentBytes .boolean ≤ 536870912) : Ak 3 .boolean .boolean n (n, .inl (fun _ => 0)) := ⟨rfl, fun _ => rfl, fun _ _ h => h, fun _ => rfl, fun _ => rfl, tw_540, h⟩
/-! BlinkerCross$Tape.<init>()V -/
abbrev y_Tape_init : MethodName := ⟨"BlinkerCross$Tape", "<init>", "()V"⟩
abbrev Y_Tape_init : Yt := (prog_10_method_1_code, 1, "BlinkerCross$Tape", 1, none, "<init>")
theorem d_Tape_init_0 : decode prog_10_method_1_code 0 = .ok (.aload_n 0, 1) := by decide +kernel
theorem d_Tape_init_1 : decode prog_10_method_1_code 1 = .ok (.invokespecial 3, 3) := by decide +kernel
theorem d_Tape_init_4 : decode prog_10_method_1_code 4 = .ok (.aload_n 0, 1) := by decide +kernel
theorem d_Tape_init_5 : decode prog_10_method_1_code 5 = .ok (.sipush 2000, 3) := by decide +kernel
theorem d_Tape_init_8 : decode prog_10_method_1_code 8 = .ok (.newarray .byte, 2) := by decide +kernel
theorem d_Tape_init_10 : decode prog_10_method_1_code 10 = .ok (.putfield 9, 3) := by decide +kernel
theorem d_Tape_init_13 : decode prog_10_method_1_code 13 = .ok (.aload_n 0, 1) := by decide +kernel
theorem d_Tape_init_14 : decode prog_10_method_1_code 14 = .ok (.sipush 401, 3) := by decide +kernel
theorem d_Tape_init_17 : decode prog_10_method_1_code 17 = .ok (.newarray .int, 2) := by decide +kernel
theorem d_Tape_init_19 : decode prog_10_method_1_code 19 = .ok (.putfield 15, 3) := by decide +kernel
theorem d_Tape_init_22 : decode prog_10_method_1_code 22 = .ok (.aload_n 0, 1) := by decide +kernel
theorem d_Tape_init_23 : decode prog_10_method_1_code 23 = .ok (.sipush 401, 3) := by decide +kernel
theorem d_Tape_init_26 : decode prog_10_method_1_code 26 = .ok (.newarray .int, 2) := by decide +kernel
theorem d_Tape_init_28 : decode prog_10_method_1_code 28 = .ok (.putfield 19, 3) := by decide +kernel
theorem d_Tape_init_31 : decode prog_10_method_1_code 31 = .ok (.aload_n 0, 1) := by decide +kernel
theorem d_Tape_init_32 : decode prog_10_method_1_code 32 = .ok (.sipush 401, 3) := by decide +kernel
theorem d_Tape_init_35 : decode prog_10_method_1_code 35 = .ok (.newarray .long, 2) := by decide +kernel
theorem d_Tape_init_37 : decode prog_10_method_1_code 37 = .ok (.putfield 22, 3) := by decide +kernel
theorem d_Tape_init_40 : decode prog_10_method_1_code 40 = .ok (.return_, 1) := by decide +kernel
noncomputable def F_Tape_init : Sm := sSeq (sSeq (sDecl (asV Value.ref (vR 0))) (sBlk 1 sSkip)) (sSeq (sNewA 1 0 1 (2000, .inl (fun _ => 0))) (sSeq (sNewA 1 2 0 (401, .inl (fun _ => 0))) (sSeq (sNewA 1 3 0 (401, .inl (fun _ => 0))) (sNewA 1 4 2 (401, .inr (.inl (fun _ => 0)))))))
noncomputable def D_Tape_init : Dn := runS [1] (sSeq F_Tape_init sRetV)
theorem mf_Tape_init : Mf y_Tape_init prog_10_method_1_code 1 none 0 := ⟨tw_155, tw_123, by decide +kernel⟩
set_option maxRecDepth 100000 in
theorem ok_Tape_init : MOK y_Tape_init prog_10_method_1_code 1 none 1 4 3203 D_Tape_init := MOK.init (by decide) (by decide) (by decide) (show SA Y_Tape_init [(0, 1)] [(0, 1)] 0 40 4 3203 F_Tape_init from
  (sa_seq (k1 := 0) (n1 := 0) (k2 := 4) (n2 := 3203) (sl1 := [(0, 1)]) (p1 := 4) (sa_super (p1 := 1) (e_aload_n (k0 := 0) d_Tape_init_0 rfl rfl) ⟨tw_156, tw_oi, tw_oc⟩ (by decide) d_Tape_init_1 (fun _ _ _ => Or.inr trivial)) (sa_seq (k1 := 1) (n1 := 2000) (k2 := 3) (n2 := 1203) (sl1 := [(0, 1)]) (p1 := 13) (sa_newa (nv := ii 2000) (k0 := 0) (p1 := 5) (p2 := 8) (ak_b 2000 (Nat.le_of_ble_eq_true rfl)) cf_1 (e_aload_n (k0 := 0) d_Tape_init_4 rfl rfl) (e_sipush d_Tape_init_5 (by decide)) (by decide +kernel) d_Tape_init_8 (by decide) rfl tw_157 (Or.inr ⟨rfl, rfl, rfl⟩) d_Tape_init_10) (sa_seq (k1 := 1) (n1 := 401) (k2 := 2) (n2 := 802) (sl1 := [(0, 1)]) (p1 := 22) (sa_newa (nv := ii 401) (k0 := 2) (p1 := 14) (p2 := 17) (ak_i 401 (Nat.le_of_ble_eq_true rfl)) cf_1 (e_aload_n (k0 := 0) d_Tape_init_13 rfl rfl) (e_sipush d_Tape_init_14 (by decide)) (by decide +kernel) d_Tape_init_17 (by decide) rfl tw_160 (Or.inr ⟨rfl, rfl, rfl⟩) d_Tape_init_19) (sa_seq (k1 := 1) (n1 := 401) (k2 := 1) (n2 := 401) (sl1 := [(0, 1)]) (p1 := 31) (sa_newa (nv := ii 401) (k0 := 3) (p1 := 23) (p2 := 26) (ak_i 401 (Nat.le_of_ble_eq_true rfl)) cf_1 (e_aload_n (k0 := 0) d_Tape_init_22 rfl rfl) (e_sipush d_Tape_init_23 (by decide)) (by decide +kernel) d_Tape_init_26 (by decide) rfl tw_162 (Or.inr ⟨rfl, rfl, rfl⟩) d_Tape_init_28) (sa_newa (nv := ii 401) (k0 := 4) (p1 := 32) (p2 := 35) (ak_l 401 (Nat.le_of_ble_eq_true rfl)) cf_1 (e_aload_n (k0 := 0) d_Tape_init_31 rfl rfl) (e_sipush d_Tape_init_32 (by decide)) (by decide +kernel) d_Tape_init_35 (by decide) rfl tw_163 (Or.inr ⟨rfl, rfl, rfl⟩) d_Tape_init_37)))))) d_Tape_init_40
/-! BlinkerCross$Text.<init>()V -/
abbrev y_Text_init : MethodName := ⟨"BlinkerCross$Text", "<init>", "()V"⟩
abbrev Y_Text_init : Yt := (prog_11_method_1_code, 1, "BlinkerCross$Text", 4, none, "<init>")
theorem d_Text_init_0 : decode prog_11_method_1_code 0 = .ok (.aload_n 0, 1) := by decide +kernel
theorem d_Text_init_1 : decode prog_11_method_1_code 1 = .ok (.invokespecial 3, 3) := by decide +kernel
theorem d_Text_init_4 : decode prog_11_method_1_code 4 = .ok (.aload_n 0, 1) := by decide +kernel
theorem d_Text_init_5 : decode prog_11_method_1_code 5 = .ok (.bipush 6, 2) := by decide +kernel
theorem d_Text_init_7 : decode prog_11_method_1_code 7 = .ok (.newarray .int, 2) := by decide +kernel
theorem d_Text_init_9 : decode prog_11_method_1_code 9 = .ok (.putfield 9, 3) := by decide +kernel
theorem d_Text_init_12 : decode prog_11_method_1_code 12 = .ok (.aload_n 0, 1) := by decide +kernel
theorem d_Text_init_13 : decode prog_11_method_1_code 13 = .ok (.iconst 5, 1) := by decide +kernel
theorem d_Text_init_14 : decode prog_11_method_1_code 14 = .ok (.newarray .int, 2) := by decide +kernel
theorem d_Text_init_16 : decode prog_11_method_1_code 16 = .ok (.putfield 15, 3) := by decide +kernel
theorem d_Text_init_19 : decode prog_11_method_1_code 19 = .ok (.aload_n 0, 1) := by decide +kernel
theorem d_Text_init_20 : decode prog_11_method_1_code 20 = .ok (.iconst 5, 1) := by decide +kernel
theorem d_Text_init_21 : decode prog_11_method_1_code 21 = .ok (.newarray .int, 2) := by decide +kernel
theorem d_Text_init_23 : decode prog_11_method_1_code 23 = .ok (.putfield 18, 3) := by decide +kernel
theorem d_Text_init_26 : decode prog_11_method_1_code 26 = .ok (.aload_n 0, 1) := by decide +kernel
theorem d_Text_init_27 : decode prog_11_method_1_code 27 = .ok (.bipush 30, 2) := by decide +kernel
theorem d_Text_init_29 : decode prog_11_method_1_code 29 = .ok (.newarray .int, 2) := by decide +kernel
theorem d_Text_init_31 : decode prog_11_method_1_code 31 = .ok (.putfield 21, 3) := by decide +kernel
theorem d_Text_init_34 : decode prog_11_method_1_code 34 = .ok (.aload_n 0, 1) := by decide +kernel
theorem d_Text_init_35 : decode prog_11_method_1_code 35 = .ok (.iconst 4, 1) := by decide +kernel
theorem d_Text_init_36 : decode prog_11_method_1_code 36 = .ok (.newarray .int, 2) := by decide +kernel
theorem d_Text_init_38 : decode prog_11_method_1_code 38 = .ok (.putfield 24, 3) := by decide +kernel
theorem d_Text_init_41 : decode prog_11_method_1_code 41 = .ok (.aload_n 0, 1) := by decide +kernel
theorem d_Text_init_42 : decode prog_11_method_1_code 42 = .ok (.sipush 408, 3) := by decide +kernel
theorem d_Text_init_45 : decode prog_11_method_1_code 45 = .ok (.newarray .int, 2) := by decide +kernel
theorem d_Text_init_47 : decode prog_11_method_1_code 47 = .ok (.putfield 27, 3) := by decide +kernel
theorem d_Text_init_50 : decode prog_11_method_1_code 50 = .ok (.aload_n 0, 1) := by decide +kernel
theorem d_Text_init_51 : decode prog_11_method_1_code 51 = .ok (.sipush 408, 3) := by decide +kernel
theorem d_Text_init_54 : decode prog_11_method_1_code 54 = .ok (.newarray .int, 2) := by decide +kernel
theorem d_Text_init_56 : decode prog_11_method_1_code 56 = .ok (.putfield 30, 3) := by decide +kernel
theorem d_Text_init_59 : decode prog_11_method_1_code 59 = .ok (.aload_n 0, 1) := by decide +kernel
theorem d_Text_init_60 : decode prog_11_method_1_code 60 = .ok (.invokevirtual 33, 3) := by decide +kernel
theorem d_Text_init_63 : decode prog_11_method_1_code 63 = .ok (.return_, 1) := by decide +kernel
noncomputable def F_Text_init : Sm := sSeq (sSeq (sDecl (asV Value.ref (vR 0))) (sBlk 1 sSkip)) (sSeq (sNewA 2 3 0 (6, .inl (fun _ => 0))) (sSeq (sNewA 2 4 0 (5, .inl (fun _ => 0))) (sSeq (sNewA 2 5 0 (5, .inl (fun _ => 0))) (sSeq (sNewA 2 6 0 (30, .inl (fun _ => 0))) (sSeq (sNewA 2 7 0 (4, .inl (fun _ => 0))) (sSeq (sNewA 2 8 0 (408, .inl (fun _ => 0))) (sSeq (sNewA 2 9 0 (408, .inl (fun _ => 0))) (sCall (mV 2 D_Text_clear) [asV Value.ref (vR 0)]))))))))
noncomputable def D_Text_init : Dn := runS [1] (sSeq F_Text_init sRetV)
theorem mf_Text_init : Mf y_Text_init prog_11_method_1_code 1 none 0 := ⟨tw_182, tw_124, by decide +kernel⟩
set_option maxRecDepth 100000 in
theorem ok_Text_init : MOK y_Text_init prog_11_method_1_code 1 none 4 7 866 D_Text_init := MOK.init (by decide) (by decide) (by decide) (show SA Y_Text_init [(0, 1)] [(0, 1)] 0 63 7 866 F_Text_init from
  (sa_seq (k1 := 0) (n1 := 0) (k2 := 7) (n2 := 866) (sl1 := [(0, 1)]) (p1 := 4) (sa_super (p1 := 1) (e_aload_n (k0 := 0) d_Text_init_0 rfl rfl) ⟨tw_183, tw_oi, tw_oc⟩ (by decide) d_Text_init_1 (fun _ _ _ => Or.inr trivial)) (sa_seq (k1 := 1) (n1 := 6) (k2 := 6) (n2 := 860) (sl1 := [(0, 1)]) (p1 := 12) (sa_newa (nv := ii 6) (k0 := 3) (p1 := 5) (p2 := 7) (ak_i 6 (Nat.le_of_ble_eq_true rfl)) cf_2 (e_aload_n (k0 := 0) d_Text_init_4 rfl rfl) (e_bipush d_Text_init_5 (by decide)) (by decide +kernel) d_Text_init_7 (by decide) rfl tw_217 (Or.inr ⟨rfl, rfl, rfl⟩) d_Text_init_9) (sa_seq (k1 := 1) (n1 := 5) (k2 := 5) (n2 := 855) (sl1 := [(0, 1)]) (p1 := 19) (sa_newa (nv := ii 5) (k0 := 4) (p1 := 13) (p2 := 14) (ak_i 5 (Nat.le_of_ble_eq_true rfl)) cf_2 (e_aload_n (k0 := 0) d_Text_init_12 rfl rfl) (e_iconst d_Text_init_13 (by decide)) (by decide +kernel) d_Text_init_14 (by decide) rfl tw_221 (Or.inr ⟨rfl, rfl, rfl⟩) d_Text_init_16) (sa_seq (k1 := 1) (n1 := 5) (k2 := 4) (n2 := 850) (sl1 := [(0, 1)]) (p1 := 26) (sa_newa (nv := ii 5) (k0 := 5) (p1 := 20) (p2 := 21) (ak_i 5 (Nat.le_of_ble_eq_true rfl)) cf_2 (e_aload_n (k0 := 0) d_Text_init_19 rfl rfl) (e_iconst d_Text_init_20 (by decide)) (by decide +kernel) d_Text_init_21 (by decide) rfl tw_224 (Or.inr ⟨rfl, rfl, rfl⟩) d_Text_init_23) (sa_seq (k1 := 1) (n1 := 30) (k2 := 3) (n2 := 820) (sl1 := [(0, 1)]) (p1 := 34) (sa_newa (nv := ii 30) (k0 := 6) (p1 := 27) (p2 := 29) (ak_i 30 (Nat.le_of_ble_eq_true rfl)) cf_2 (e_aload_n (k0 := 0) d_Text_init_26 rfl rfl) (e_bipush d_Text_init_27 (by decide)) (by decide +kernel) d_Text_init_29 (by decide) rfl tw_227 (Or.inr ⟨rfl, rfl, rfl⟩) d_Text_init_31) (sa_seq (k1 := 1) (n1 := 4) (k2 := 2) (n2 := 816) (sl1 := [(0, 1)]) (p1 := 41) (sa_newa (nv := ii 4) (k0 := 7) (p1 := 35) (p2 := 36) (ak_i 4 (Nat.le_of_ble_eq_true rfl)) cf_2 (e_aload_n (k0 := 0) d_Text_init_34 rfl rfl) (e_iconst d_Text_init_35 (by decide)) (by decide +kernel) d_Text_init_36 (by decide) rfl tw_230 (Or.inr ⟨rfl, rfl, rfl⟩) d_Text_init_38) (sa_seq (k1 := 1) (n1 := 408) (k2 := 1) (n2 := 408) (sl1 := [(0, 1)]) (p1 := 50) (sa_newa (nv := ii 408) (k0 := 8) (p1 := 42) (p2 := 45) (ak_i 408 (Nat.le_of_ble_eq_true rfl)) cf_2 (e_aload_n (k0 := 0) d_Text_init_41 rfl rfl) (e_sipush d_Text_init_42 (by decide)) (by decide +kernel) d_Text_init_45 (by decide) rfl tw_233 (Or.inr ⟨rfl, rfl, rfl⟩) d_Text_init_47) (sa_seq (k1 := 1) (n1 := 408) (k2 := 0) (n2 := 0) (sl1 := [(0, 1)]) (p1 := 59) (sa_newa (nv := ii 408) (k0 := 9) (p1 := 51) (p2 := 54) (ak_i 408 (Nat.le_of_ble_eq_true rfl)) cf_2 (e_aload_n (k0 := 0) d_Text_init_50 rfl rfl) (e_sipush d_Text_init_51 (by decide)) (by decide +kernel) d_Text_init_54 (by decide) rfl tw_235 (Or.inr ⟨rfl, rfl, rfl⟩) d_Text_init_56) (sa_call (p1 := 60) (a_cons (ι := Value.ref) (k0 := 1) (p1 := 60) (fun _ => rfl) (e_aload_n (k0 := 0) d_Text_init_59 rfl rfl) a_nil) (k_virt ok_Text_clear mf_Text_clear ⟨tw_185, tw_186⟩ rfl tw_184 d_Text_init_60 (by decide) (by decide) (by decide)))))))))))) d_Text_init_63
/-! BlinkerCross$Parser.<init>(LBlinkerCross$Tape;)V -/
abbrev y_Parser_init : MethodName := ⟨"BlinkerCross$Parser", "<init>", "(LBlinkerCross$Tape;)V"⟩
abbrev Y_Parser_init : Yt := (prog_6_method_1_code, 2, "BlinkerCross$Parser", 5, none, "<init>")
theorem d_Parser_init_0 : decode prog_6_method_1_code 0 = .ok (.aload_n 0, 1) := by decide +kernel
theorem d_Parser_init_1 : decode prog_6_method_1_code 1 = .ok (.invokespecial 3, 3) := by decide +kernel
theorem d_Parser_init_4 : decode prog_6_method_1_code 4 = .ok (.aload_n 0, 1) := by decide +kernel
theorem d_Parser_init_5 : decode prog_6_method_1_code 5 = .ok (.new 9, 3) := by decide +kernel
theorem d_Parser_init_8 : decode prog_6_method_1_code 8 = .ok (.dup, 1) := by decide +kernel
theorem d_Parser_init_9 : decode prog_6_method_1_code 9 = .ok (.invokespecial 11, 3) := by decide +kernel
theorem d_Parser_init_12 : decode prog_6_method_1_code 12 = .ok (.putfield 12, 3) := by decide +kernel
theorem d_Parser_init_15 : decode prog_6_method_1_code 15 = .ok (.aload_n 0, 1) := by decide +kernel
theorem d_Parser_init_16 : decode prog_6_method_1_code 16 = .ok (.iconst (-1), 1) := by decide +kernel
theorem d_Parser_init_17 : decode prog_6_method_1_code 17 = .ok (.putfield 18, 3) := by decide +kernel
theorem d_Parser_init_20 : decode prog_6_method_1_code 20 = .ok (.aload_n 0, 1) := by decide +kernel
theorem d_Parser_init_21 : decode prog_6_method_1_code 21 = .ok (.bipush 6, 2) := by decide +kernel
theorem d_Parser_init_23 : decode prog_6_method_1_code 23 = .ok (.newarray .long, 2) := by decide +kernel
theorem d_Parser_init_25 : decode prog_6_method_1_code 25 = .ok (.putfield 22, 3) := by decide +kernel
theorem d_Parser_init_28 : decode prog_6_method_1_code 28 = .ok (.aload_n 0, 1) := by decide +kernel
theorem d_Parser_init_29 : decode prog_6_method_1_code 29 = .ok (.iconst 5, 1) := by decide +kernel
theorem d_Parser_init_30 : decode prog_6_method_1_code 30 = .ok (.newarray .long, 2) := by decide +kernel
theorem d_Parser_init_32 : decode prog_6_method_1_code 32 = .ok (.putfield 26, 3) := by decide +kernel
theorem d_Parser_init_35 : decode prog_6_method_1_code 35 = .ok (.aload_n 0, 1) := by decide +kernel
theorem d_Parser_init_36 : decode prog_6_method_1_code 36 = .ok (.aload_n 1, 1) := by decide +kernel
theorem d_Parser_init_37 : decode prog_6_method_1_code 37 = .ok (.putfield 29, 3) := by decide +kernel
theorem d_Parser_init_40 : decode prog_6_method_1_code 40 = .ok (.return_, 1) := by decide +kernel
noncomputable def F_Parser_init : Sm := sSeq (sSeq (sDecl (asV Value.ref (vR 0))) (sBlk 2 sSkip)) (sSeq (sNewO 3 0 2 df_2 D_Text_init []) (sSeq (sPut 3 1 (vR 0) (asV Value.int (kI (ii (-1))))) (sSeq (sNewA 3 3 2 (6, .inr (.inl (fun _ => 0)))) (sSeq (sNewA 3 4 2 (5, .inr (.inl (fun _ => 0)))) (sPut 3 2 (vR 0) (asV Value.ref (vR 1)))))))
noncomputable def D_Parser_init : Dn := runS [1, 1] (sSeq F_Parser_init sRetV)
theorem mf_Parser_init : Mf y_Parser_init prog_6_method_1_code 2 none 1 := ⟨tw_267, tw_125, by decide +kernel⟩
set_option maxRecDepth 100000 in
theorem ok_Parser_init : MOK y_Parser_init prog_6_method_1_code 2 none 5 10 888 D_Parser_init := MOK.init (by decide) (by decide) (by decide) (show SA Y_Parser_init [(0, 1), (1, 1)] [(0, 1), (1, 1)] 0 40 10 888 F_Parser_init from
  (sa_seq (k1 := 0) (n1 := 0) (k2 := 10) (n2 := 888) (sl1 := [(0, 1), (1, 1)]) (p1 := 4) (sa_super (p1 := 1) (e_aload_n (k0 := 0) d_Parser_init_0 rfl rfl) ⟨tw_268, tw_oi, tw_oc⟩ (by decide) d_Parser_init_1 (fun _ _ _ => Or.inr trivial)) (sa_seq (k1 := 8) (n1 := 877) (k2 := 2) (n2 := 11) (sl1 := [(0, 1), (1, 1)]) (p1 := 15) (sa_newo (k0 := 0) (p1 := 5) (p2 := 9) (N1 := 11) (mc := 7) (ms := 866) cf_2 dfs_2 cf_3 (e_aload_n (k0 := 0) d_Parser_init_4 rfl rfl) tw_269 tw_179 tw_124 d_Parser_init_5 d_Parser_init_8 a_nil (k_init ok_Text_init mf_Text_init rfl tw_181 tw_270 d_Parser_init_9 (by decide) (by decide) (by decide)) (by decide) rfl tw_271 (Or.inr ⟨rfl, rfl, rfl⟩) d_Parser_init_12) (sa_seq (k1 := 0) (n1 := 0) (k2 := 2) (n2 := 11) (sl1 := [(0, 1), (1, 1)]) (p1 := 20) (sa_put (k0 := 1) (p1 := 16) (p2 := 17) cf_3 (e_aload_n (k0 := 0) d_Parser_init_15 rfl rfl) (e_iconst d_Parser_init_16 (by decide)) (by decide) fk_i tw_273 (Or.inl rfl) d_Parser_init_17) (sa_seq (k1 := 1) (n1 := 6) (k2 := 1) (n2 := 5) (sl1 := [(0, 1), (1, 1)]) (p1 := 28) (sa_newa (nv := ii 6) (k0 := 3) (p1 := 21) (p2 := 23) (ak_l 6 (Nat.le_of_ble_eq_true rfl)) cf_3 (e_aload_n (k0 := 0) d_Parser_init_20 rfl rfl) (e_bipush d_Parser_init_21 (by decide)) (by decide +kernel) d_Parser_init_23 (by decide) rfl tw_276 (Or.inr ⟨rfl, rfl, rfl⟩) d_Parser_init_25) (sa_seq (k1 := 1) (n1 := 5) (k2 := 0) (n2 := 0) (sl1 := [(0, 1), (1, 1)]) (p1 := 35) (sa_newa (nv := ii 5) (k0 := 4) (p1 := 29) (p2 := 30) (ak_l 5 (Nat.le_of_ble_eq_true rfl)) cf_3 (e_aload_n (k0 := 0) d_Parser_init_28 rfl rfl) (e_iconst d_Parser_init_29 (by decide)) (by decide +kernel) d_Parser_init_30 (by decide) rfl tw_277 (Or.inr ⟨rfl, rfl, rfl⟩) d_Parser_init_32) (sa_put (k0 := 2) (p1 := 36) (p2 := 37) cf_3 (e_aload_n (k0 := 0) d_Parser_init_35 rfl rfl) (e_aload_n (k0 := 1) d_Parser_init_36 rfl rfl) (by decide) fk_o tw_275 (Or.inr ⟨rfl, rfl, rfl⟩) d_Parser_init_37))))))) d_Parser_init_40
/-! BlinkerCross$Scene.<init>(LBlinkerCross$Text;)V -/
abbrev y_Scene_init : MethodName := ⟨"BlinkerCross$Scene", "<init>", "(LBlinkerCross$Text;)V"⟩
abbrev Y_Scene_init : Yt := (prog_8_method_1_code, 2, "BlinkerCross$Scene", 1, none, "<init>")
theorem d_Scene_init_0 : decode prog_8_method_1_code 0 = .ok (.aload_n 0, 1) := by decide +kernel
theorem d_Scene_init_1 : decode prog_8_method_1_code 1 = .ok (.invokespecial 3, 3) := by decide +kernel
theorem d_Scene_init_4 : decode prog_8_method_1_code 4 = .ok (.aload_n 0, 1) := by decide +kernel
theorem d_Scene_init_5 : decode prog_8_method_1_code 5 = .ok (.bipush 56, 2) := by decide +kernel
theorem d_Scene_init_7 : decode prog_8_method_1_code 7 = .ok (.newarray .int, 2) := by decide +kernel
theorem d_Scene_init_9 : decode prog_8_method_1_code 9 = .ok (.putfield 9, 3) := by decide +kernel
theorem d_Scene_init_12 : decode prog_8_method_1_code 12 = .ok (.aload_n 0, 1) := by decide +kernel
theorem d_Scene_init_13 : decode prog_8_method_1_code 13 = .ok (.iconst 5, 1) := by decide +kernel
theorem d_Scene_init_14 : decode prog_8_method_1_code 14 = .ok (.newarray .int, 2) := by decide +kernel
theorem d_Scene_init_16 : decode prog_8_method_1_code 16 = .ok (.putfield 15, 3) := by decide +kernel
theorem d_Scene_init_19 : decode prog_8_method_1_code 19 = .ok (.aload_n 0, 1) := by decide +kernel
theorem d_Scene_init_20 : decode prog_8_method_1_code 20 = .ok (.bipush 6, 2) := by decide +kernel
theorem d_Scene_init_22 : decode prog_8_method_1_code 22 = .ok (.newarray .int, 2) := by decide +kernel
theorem d_Scene_init_24 : decode prog_8_method_1_code 24 = .ok (.putfield 18, 3) := by decide +kernel
theorem d_Scene_init_27 : decode prog_8_method_1_code 27 = .ok (.aload_n 0, 1) := by decide +kernel
theorem d_Scene_init_28 : decode prog_8_method_1_code 28 = .ok (.aload_n 1, 1) := by decide +kernel
theorem d_Scene_init_29 : decode prog_8_method_1_code 29 = .ok (.putfield 21, 3) := by decide +kernel
theorem d_Scene_init_32 : decode prog_8_method_1_code 32 = .ok (.return_, 1) := by decide +kernel
noncomputable def F_Scene_init : Sm := sSeq (sSeq (sDecl (asV Value.ref (vR 0))) (sBlk 2 sSkip)) (sSeq (sNewA 4 0 0 (56, .inl (fun _ => 0))) (sSeq (sNewA 4 1 0 (5, .inl (fun _ => 0))) (sSeq (sNewA 4 2 0 (6, .inl (fun _ => 0))) (sPut 4 4 (vR 0) (asV Value.ref (vR 1))))))
noncomputable def D_Scene_init : Dn := runS [1, 1] (sSeq F_Scene_init sRetV)
theorem mf_Scene_init : Mf y_Scene_init prog_8_method_1_code 2 none 1 := ⟨tw_314, tw_126, by decide +kernel⟩
set_option maxRecDepth 100000 in
theorem ok_Scene_init : MOK y_Scene_init prog_8_method_1_code 2 none 1 3 67 D_Scene_init := MOK.init (by decide) (by decide) (by decide) (show SA Y_Scene_init [(0, 1), (1, 1)] [(0, 1), (1, 1)] 0 32 3 67 F_Scene_init from
  (sa_seq (k1 := 0) (n1 := 0) (k2 := 3) (n2 := 67) (sl1 := [(0, 1), (1, 1)]) (p1 := 4) (sa_super (p1 := 1) (e_aload_n (k0 := 0) d_Scene_init_0 rfl rfl) ⟨tw_315, tw_oi, tw_oc⟩ (by decide) d_Scene_init_1 (fun _ _ _ => Or.inr trivial)) (sa_seq (k1 := 1) (n1 := 56) (k2 := 2) (n2 := 11) (sl1 := [(0, 1), (1, 1)]) (p1 := 12) (sa_newa (nv := ii 56) (k0 := 0) (p1 := 5) (p2 := 7) (ak_i 56 (Nat.le_of_ble_eq_true rfl)) cf_4 (e_aload_n (k0 := 0) d_Scene_init_4 rfl rfl) (e_bipush d_Scene_init_5 (by decide)) (by decide +kernel) d_Scene_init_7 (by decide) rfl tw_316 (Or.inr ⟨rfl, rfl, rfl⟩) d_Scene_init_9) (sa_seq (k1 := 1) (n1 := 5) (k2 := 1) (n2 := 6) (sl1 := [(0, 1), (1, 1)]) (p1 := 19) (sa_newa (nv := ii 5) (k0 := 1) (p1 := 13) (p2 := 14) (ak_i 5 (Nat.le_of_ble_eq_true rfl)) cf_4 (e_aload_n (k0 := 0) d_Scene_init_12 rfl rfl) (e_iconst d_Scene_init_13 (by decide)) (by decide +kernel) d_Scene_init_14 (by decide) rfl tw_322 (Or.inr ⟨rfl, rfl, rfl⟩) d_Scene_init_16) (sa_seq (k1 := 1) (n1 := 6) (k2 := 0) (n2 := 0) (sl1 := [(0, 1), (1, 1)]) (p1 := 27) (sa_newa (nv := ii 6) (k0 := 2) (p1 := 20) (p2 := 22) (ak_i 6 (Nat.le_of_ble_eq_true rfl)) cf_4 (e_aload_n (k0 := 0) d_Scene_init_19 rfl rfl) (e_bipush d_Scene_init_20 (by decide)) (by decide +kernel) d_Scene_init_22 (by decide) rfl tw_327 (Or.inr ⟨rfl, rfl, rfl⟩) d_Scene_init_24) (sa_put (k0 := 4) (p1 := 28) (p2 := 29) cf_4 (e_aload_n (k0 := 0) d_Scene_init_27 rfl rfl) (e_aload_n (k0 := 1) d_Scene_init_28 rfl rfl) (by decide) fk_o tw_333 (Or.inr ⟨rfl, rfl, rfl⟩) d_Scene_init_29)))))) d_Scene_init_32
/-! BlinkerCross$Laws.<init>(LBlinkerCross$Text;)V -/
abbrev y_Laws_init : MethodName := ⟨"BlinkerCross$Laws", "<init>", "(LBlinkerCross$Text;)V"⟩
abbrev Y_Laws_init : Yt := (prog_5_method_1_code, 2, "BlinkerCross$Laws", 1, none, "<init>")
theorem d_Laws_init_0 : decode prog_5_method_1_code 0 = .ok (.aload_n 0, 1) := by decide +kernel
theorem d_Laws_init_1 : decode prog_5_method_1_code 1 = .ok (.invokespecial 3, 3) := by decide +kernel
theorem d_Laws_init_4 : decode prog_5_method_1_code 4 = .ok (.aload_n 0, 1) := by decide +kernel
theorem d_Laws_init_5 : decode prog_5_method_1_code 5 = .ok (.bipush 9, 2) := by decide +kernel
theorem d_Laws_init_7 : decode prog_5_method_1_code 7 = .ok (.newarray .int, 2) := by decide +kernel
theorem d_Laws_init_9 : decode prog_5_method_1_code 9 = .ok (.putfield 9, 3) := by decide +kernel
theorem d_Laws_init_12 : decode prog_5_method_1_code 12 = .ok (.aload_n 0, 1) := by decide +kernel
theorem d_Laws_init_13 : decode prog_5_method_1_code 13 = .ok (.bipush 32, 2) := by decide +kernel
theorem d_Laws_init_15 : decode prog_5_method_1_code 15 = .ok (.newarray .int, 2) := by decide +kernel
theorem d_Laws_init_17 : decode prog_5_method_1_code 17 = .ok (.putfield 15, 3) := by decide +kernel
theorem d_Laws_init_20 : decode prog_5_method_1_code 20 = .ok (.aload_n 0, 1) := by decide +kernel
theorem d_Laws_init_21 : decode prog_5_method_1_code 21 = .ok (.aload_n 1, 1) := by decide +kernel
theorem d_Laws_init_22 : decode prog_5_method_1_code 22 = .ok (.putfield 18, 3) := by decide +kernel
theorem d_Laws_init_25 : decode prog_5_method_1_code 25 = .ok (.return_, 1) := by decide +kernel
noncomputable def F_Laws_init : Sm := sSeq (sSeq (sDecl (asV Value.ref (vR 0))) (sBlk 2 sSkip)) (sSeq (sNewA 5 1 0 (9, .inl (fun _ => 0))) (sSeq (sNewA 5 2 0 (32, .inl (fun _ => 0))) (sPut 5 0 (vR 0) (asV Value.ref (vR 1)))))
noncomputable def D_Laws_init : Dn := runS [1, 1] (sSeq F_Laws_init sRetV)
theorem mf_Laws_init : Mf y_Laws_init prog_5_method_1_code 2 none 1 := ⟨tw_349, tw_127, by decide +kernel⟩
set_option maxRecDepth 100000 in
theorem ok_Laws_init : MOK y_Laws_init prog_5_method_1_code 2 none 1 2 41 D_Laws_init := MOK.init (by decide) (by decide) (by decide) (show SA Y_Laws_init [(0, 1), (1, 1)] [(0, 1), (1, 1)] 0 25 2 41 F_Laws_init from
  (sa_seq (k1 := 0) (n1 := 0) (k2 := 2) (n2 := 41) (sl1 := [(0, 1), (1, 1)]) (p1 := 4) (sa_super (p1 := 1) (e_aload_n (k0 := 0) d_Laws_init_0 rfl rfl) ⟨tw_350, tw_oi, tw_oc⟩ (by decide) d_Laws_init_1 (fun _ _ _ => Or.inr trivial)) (sa_seq (k1 := 1) (n1 := 9) (k2 := 1) (n2 := 32) (sl1 := [(0, 1), (1, 1)]) (p1 := 12) (sa_newa (nv := ii 9) (k0 := 1) (p1 := 5) (p2 := 7) (ak_i 9 (Nat.le_of_ble_eq_true rfl)) cf_5 (e_aload_n (k0 := 0) d_Laws_init_4 rfl rfl) (e_bipush d_Laws_init_5 (by decide)) (by decide +kernel) d_Laws_init_7 (by decide) rfl tw_352 (Or.inr ⟨rfl, rfl, rfl⟩) d_Laws_init_9) (sa_seq (k1 := 1) (n1 := 32) (k2 := 0) (n2 := 0) (sl1 := [(0, 1), (1, 1)]) (p1 := 20) (sa_newa (nv := ii 32) (k0 := 2) (p1 := 13) (p2 := 15) (ak_i 32 (Nat.le_of_ble_eq_true rfl)) cf_5 (e_aload_n (k0 := 0) d_Laws_init_12 rfl rfl) (e_bipush d_Laws_init_13 (by decide)) (by decide +kernel) d_Laws_init_15 (by decide) rfl tw_353 (Or.inr ⟨rfl, rfl, rfl⟩) d_Laws_init_17) (sa_put (k0 := 0) (p1 := 21) (p2 := 22) cf_5 (e_aload_n (k0 := 0) d_Laws_init_20 rfl rfl) (e_aload_n (k0 := 1) d_Laws_init_21 rfl rfl) (by decide) fk_o tw_351 (Or.inr ⟨rfl, rfl, rfl⟩) d_Laws_init_22))))) d_Laws_init_25
/-! BlinkerCross$Days.<init>(LBlinkerCross$Text;LBlinkerCross$Laws;)V -/
abbrev y_Days_init : MethodName := ⟨"BlinkerCross$Days", "<init>", "(LBlinkerCross$Text;LBlinkerCross$Laws;)V"⟩
abbrev Y_Days_init : Yt := (prog_2_method_1_code, 3, "BlinkerCross$Days", 2, none, "<init>")
theorem d_Days_init_0 : decode prog_2_method_1_code 0 = .ok (.aload_n 0, 1) := by decide +kernel
theorem d_Days_init_1 : decode prog_2_method_1_code 1 = .ok (.invokespecial 3, 3) := by decide +kernel
theorem d_Days_init_4 : decode prog_2_method_1_code 4 = .ok (.aload_n 0, 1) := by decide +kernel
theorem d_Days_init_5 : decode prog_2_method_1_code 5 = .ok (.aload_n 1, 1) := by decide +kernel
theorem d_Days_init_6 : decode prog_2_method_1_code 6 = .ok (.putfield 9, 3) := by decide +kernel
theorem d_Days_init_9 : decode prog_2_method_1_code 9 = .ok (.aload_n 0, 1) := by decide +kernel
theorem d_Days_init_10 : decode prog_2_method_1_code 10 = .ok (.aload_n 2, 1) := by decide +kernel
theorem d_Days_init_11 : decode prog_2_method_1_code 11 = .ok (.putfield 15, 3) := by decide +kernel
theorem d_Days_init_14 : decode prog_2_method_1_code 14 = .ok (.aload_n 0, 1) := by decide +kernel
theorem d_Days_init_15 : decode prog_2_method_1_code 15 = .ok (.new 19, 3) := by decide +kernel
theorem d_Days_init_18 : decode prog_2_method_1_code 18 = .ok (.dup, 1) := by decide +kernel
theorem d_Days_init_19 : decode prog_2_method_1_code 19 = .ok (.aload_n 1, 1) := by decide +kernel
theorem d_Days_init_20 : decode prog_2_method_1_code 20 = .ok (.invokespecial 21, 3) := by decide +kernel
theorem d_Days_init_23 : decode prog_2_method_1_code 23 = .ok (.putfield 24, 3) := by decide +kernel
theorem d_Days_init_26 : decode prog_2_method_1_code 26 = .ok (.return_, 1) := by decide +kernel
noncomputable def F_Days_init : Sm := sSeq (sSeq (sDecl (asV Value.ref (vR 0))) (sBlk 3 sSkip)) (sSeq (sPut 6 0 (vR 0) (asV Value.ref (vR 1))) (sSeq (sPut 6 1 (vR 0) (asV Value.ref (vR 2))) (sNewO 6 2 4 df_4 D_Scene_init [asV Value.ref (vR 1)])))
noncomputable def D_Days_init : Dn := runS [1, 1, 1] (sSeq F_Days_init sRetV)
theorem mf_Days_init : Mf y_Days_init prog_2_method_1_code 3 none 2 := ⟨tw_365, tw_128, by decide +kernel⟩
set_option maxRecDepth 100000 in
theorem ok_Days_init : MOK y_Days_init prog_2_method_1_code 3 none 2 4 72 D_Days_init := MOK.init (by decide) (by decide) (by decide) (show SA Y_Days_init [(0, 1), (1, 1), (2, 1)] [(0, 1), (1, 1), (2, 1)] 0 26 4 72 F_Days_init from
  (sa_seq (k1 := 0) (n1 := 0) (k2 := 4) (n2 := 72) (sl1 := [(0, 1), (1, 1), (2, 1)]) (p1 := 4) (sa_super (p1 := 1) (e_aload_n (k0 := 0) d_Days_init_0 rfl rfl) ⟨tw_366, tw_oi, tw_oc⟩ (by decide) d_Days_init_1 (fun _ _ _ => Or.inr trivial)) (sa_seq (k1 := 0) (n1 := 0) (k2 := 4) (n2 := 72) (sl1 := [(0, 1), (1, 1), (2, 1)]) (p1 := 9) (sa_put (k0 := 0) (p1 := 5) (p2 := 6) cf_6 (e_aload_n (k0 := 0) d_Days_init_4 rfl rfl) (e_aload_n (k0 := 1) d_Days_init_5 rfl rfl) (by decide) fk_o tw_369 (Or.inr ⟨rfl, rfl, rfl⟩) d_Days_init_6) (sa_seq (k1 := 0) (n1 := 0) (k2 := 4) (n2 := 72) (sl1 := [(0, 1), (1, 1), (2, 1)]) (p1 := 14) (sa_put (k0 := 1) (p1 := 10) (p2 := 11) cf_6 (e_aload_n (k0 := 0) d_Days_init_9 rfl rfl) (e_aload_n (k0 := 2) d_Days_init_10 rfl rfl) (by decide) fk_o tw_370 (Or.inr ⟨rfl, rfl, rfl⟩) d_Days_init_11) (sa_newo (k0 := 2) (p1 := 15) (p2 := 20) (N1 := 5) (mc := 3) (ms := 67) cf_4 dfs_4 cf_6 (e_aload_n (k0 := 0) d_Days_init_14 rfl rfl) tw_367 tw_311 tw_126 d_Days_init_15 d_Days_init_18 (a_cons (ι := Value.ref) (k0 := 1) (p1 := 20) (fun _ => rfl) (e_aload_n (k0 := 1) d_Days_init_19 rfl rfl) a_nil) (k_init ok_Scene_init mf_Scene_init rfl tw_313 tw_368 d_Days_init_20 (by decide) (by decide) (by decide)) (by decide) rfl tw_371 (Or.inr ⟨rfl, rfl, rfl⟩) d_Days_init_23))))) d_Days_init_26
/-! BlinkerCross$Plan.<init>(LBlinkerCross$Text;LBlinkerCross$Scene;LBlinkerCross$Laws;)V -/
abbrev y_Plan_init : MethodName := ⟨"BlinkerCross$Plan", "<init>", "(LBlinkerCross$Text;LBlinkerCross$Scene;LBlinkerCross$Laws;)V"⟩
abbrev Y_Plan_init : Yt := (prog_7_method_1_code, 4, "BlinkerCross$Plan", 1, none, "<init>")
theorem d_Plan_init_0 : decode prog_7_method_1_code 0 = .ok (.aload_n 0, 1) := by decide +kernel
theorem d_Plan_init_1 : decode prog_7_method_1_code 1 = .ok (.invokespecial 3, 3) := by decide +kernel
theorem d_Plan_init_4 : decode prog_7_method_1_code 4 = .ok (.aload_n 0, 1) := by decide +kernel
theorem d_Plan_init_5 : decode prog_7_method_1_code 5 = .ok (.iconst 5, 1) := by decide +kernel
theorem d_Plan_init_6 : decode prog_7_method_1_code 6 = .ok (.newarray .int, 2) := by decide +kernel
theorem d_Plan_init_8 : decode prog_7_method_1_code 8 = .ok (.putfield 9, 3) := by decide +kernel
theorem d_Plan_init_11 : decode prog_7_method_1_code 11 = .ok (.aload_n 0, 1) := by decide +kernel
theorem d_Plan_init_12 : decode prog_7_method_1_code 12 = .ok (.bipush 30, 2) := by decide +kernel
theorem d_Plan_init_14 : decode prog_7_method_1_code 14 = .ok (.newarray .int, 2) := by decide +kernel
theorem d_Plan_init_16 : decode prog_7_method_1_code 16 = .ok (.putfield 15, 3) := by decide +kernel
theorem d_Plan_init_19 : decode prog_7_method_1_code 19 = .ok (.aload_n 0, 1) := by decide +kernel
theorem d_Plan_init_20 : decode prog_7_method_1_code 20 = .ok (.bipush 30, 2) := by decide +kernel
theorem d_Plan_init_22 : decode prog_7_method_1_code 22 = .ok (.newarray .int, 2) := by decide +kernel
theorem d_Plan_init_24 : decode prog_7_method_1_code 24 = .ok (.putfield 18, 3) := by decide +kernel
theorem d_Plan_init_27 : decode prog_7_method_1_code 27 = .ok (.aload_n 0, 1) := by decide +kernel
theorem d_Plan_init_28 : decode prog_7_method_1_code 28 = .ok (.sipush 150, 3) := by decide +kernel
theorem d_Plan_init_31 : decode prog_7_method_1_code 31 = .ok (.newarray .int, 2) := by decide +kernel
theorem d_Plan_init_33 : decode prog_7_method_1_code 33 = .ok (.putfield 21, 3) := by decide +kernel
theorem d_Plan_init_36 : decode prog_7_method_1_code 36 = .ok (.aload_n 0, 1) := by decide +kernel
theorem d_Plan_init_37 : decode prog_7_method_1_code 37 = .ok (.iconst 5, 1) := by decide +kernel
theorem d_Plan_init_38 : decode prog_7_method_1_code 38 = .ok (.newarray .int, 2) := by decide +kernel
theorem d_Plan_init_40 : decode prog_7_method_1_code 40 = .ok (.putfield 24, 3) := by decide +kernel
theorem d_Plan_init_43 : decode prog_7_method_1_code 43 = .ok (.aload_n 0, 1) := by decide +kernel
theorem d_Plan_init_44 : decode prog_7_method_1_code 44 = .ok (.bipush 6, 2) := by decide +kernel
theorem d_Plan_init_46 : decode prog_7_method_1_code 46 = .ok (.newarray .int, 2) := by decide +kernel
theorem d_Plan_init_48 : decode prog_7_method_1_code 48 = .ok (.putfield 27, 3) := by decide +kernel
theorem d_Plan_init_51 : decode prog_7_method_1_code 51 = .ok (.aload_n 0, 1) := by decide +kernel
theorem d_Plan_init_52 : decode prog_7_method_1_code 52 = .ok (.iconst (-1), 1) := by decide +kernel
theorem d_Plan_init_53 : decode prog_7_method_1_code 53 = .ok (.putfield 30, 3) := by decide +kernel
theorem d_Plan_init_56 : decode prog_7_method_1_code 56 = .ok (.aload_n 0, 1) := by decide +kernel
theorem d_Plan_init_57 : decode prog_7_method_1_code 57 = .ok (.iconst (-1), 1) := by decide +kernel
theorem d_Plan_init_58 : decode prog_7_method_1_code 58 = .ok (.putfield 34, 3) := by decide +kernel
theorem d_Plan_init_61 : decode prog_7_method_1_code 61 = .ok (.aload_n 0, 1) := by decide +kernel
theorem d_Plan_init_62 : decode prog_7_method_1_code 62 = .ok (.aload_n 1, 1) := by decide +kernel
theorem d_Plan_init_63 : decode prog_7_method_1_code 63 = .ok (.putfield 37, 3) := by decide +kernel
theorem d_Plan_init_66 : decode prog_7_method_1_code 66 = .ok (.aload_n 0, 1) := by decide +kernel
theorem d_Plan_init_67 : decode prog_7_method_1_code 67 = .ok (.aload_n 2, 1) := by decide +kernel
theorem d_Plan_init_68 : decode prog_7_method_1_code 68 = .ok (.putfield 41, 3) := by decide +kernel
theorem d_Plan_init_71 : decode prog_7_method_1_code 71 = .ok (.aload_n 0, 1) := by decide +kernel
theorem d_Plan_init_72 : decode prog_7_method_1_code 72 = .ok (.aload_n 3, 1) := by decide +kernel
theorem d_Plan_init_73 : decode prog_7_method_1_code 73 = .ok (.putfield 45, 3) := by decide +kernel
theorem d_Plan_init_76 : decode prog_7_method_1_code 76 = .ok (.return_, 1) := by decide +kernel
noncomputable def F_Plan_init : Sm := sSeq (sSeq (sDecl (asV Value.ref (vR 0))) (sBlk 4 sSkip)) (sSeq (sNewA 7 3 0 (5, .inl (fun _ => 0))) (sSeq (sNewA 7 7 0 (30, .inl (fun _ => 0))) (sSeq (sNewA 7 8 0 (30, .inl (fun _ => 0))) (sSeq (sNewA 7 9 0 (150, .inl (fun _ => 0))) (sSeq (sNewA 7 10 0 (5, .inl (fun _ => 0))) (sSeq (sNewA 7 11 0 (6, .inl (fun _ => 0))) (sSeq (sPut 7 12 (vR 0) (asV Value.int (kI (ii (-1))))) (sSeq (sPut 7 13 (vR 0) (asV Value.int (kI (ii (-1))))) (sSeq (sPut 7 4 (vR 0) (asV Value.ref (vR 1))) (sSeq (sPut 7 5 (vR 0) (asV Value.ref (vR 2))) (sPut 7 6 (vR 0) (asV Value.ref (vR 3)))))))))))))
noncomputable def D_Plan_init : Dn := runS [1, 1, 1, 1] (sSeq F_Plan_init sRetV)
theorem mf_Plan_init : Mf y_Plan_init prog_7_method_1_code 4 none 3 := ⟨tw_383, tw_129, by decide +kernel⟩
set_option maxRecDepth 100000 in
theorem ok_Plan_init : MOK y_Plan_init prog_7_method_1_code 4 none 1 6 226 D_Plan_init := MOK.init (by decide) (by decide) (by decide) (show SA Y_Plan_init [(0, 1), (1, 1), (2, 1), (3, 1)] [(0, 1), (1, 1), (2, 1), (3, 1)] 0 76 6 226 F_Plan_init from
  (sa_seq (k1 := 0) (n1 := 0) (k2 := 6) (n2 := 226) (sl1 := [(0, 1), (1, 1), (2, 1), (3, 1)]) (p1 := 4) (sa_super (p1 := 1) (e_aload_n (k0 := 0) d_Plan_init_0 rfl rfl) ⟨tw_384, tw_oi, tw_oc⟩ (by decide) d_Plan_init_1 (fun _ _ _ => Or.inr trivial)) (sa_seq (k1 := 1) (n1 := 5) (k2 := 5) (n2 := 221) (sl1 := [(0, 1), (1, 1), (2, 1), (3, 1)]) (p1 := 11) (sa_newa (nv := ii 5) (k0 := 3) (p1 := 5) (p2 := 6) (ak_i 5 (Nat.le_of_ble_eq_true rfl)) cf_7 (e_aload_n (k0 := 0) d_Plan_init_4 rfl rfl) (e_iconst d_Plan_init_5 (by decide)) (by decide +kernel) d_Plan_init_6 (by decide) rfl tw_391 (Or.inr ⟨rfl, rfl, rfl⟩) d_Plan_init_8) (sa_seq (k1 := 1) (n1 := 30) (k2 := 4) (n2 := 191) (sl1 := [(0, 1), (1, 1), (2, 1), (3, 1)]) (p1 := 19) (sa_newa (nv := ii 30) (k0 := 7) (p1 := 12) (p2 := 14) (ak_i 30 (Nat.le_of_ble_eq_true rfl)) cf_7 (e_aload_n (k0 := 0) d_Plan_init_11 rfl rfl) (e_bipush d_Plan_init_12 (by decide)) (by decide +kernel) d_Plan_init_14 (by decide) rfl tw_396 (Or.inr ⟨rfl, rfl, rfl⟩) d_Plan_init_16) (sa_seq (k1 := 1) (n1 := 30) (k2 := 3) (n2 := 161) (sl1 := [(0, 1), (1, 1), (2, 1), (3, 1)]) (p1 := 27) (sa_newa (nv := ii 30) (k0 := 8) (p1 := 20) (p2 := 22) (ak_i 30 (Nat.le_of_ble_eq_true rfl)) cf_7 (e_aload_n (k0 := 0) d_Plan_init_19 rfl rfl) (e_bipush d_Plan_init_20 (by decide)) (by decide +kernel) d_Plan_init_22 (by decide) rfl tw_397 (Or.inr ⟨rfl, rfl, rfl⟩) d_Plan_init_24) (sa_seq (k1 := 1) (n1 := 150) (k2 := 2) (n2 := 11) (sl1 := [(0, 1), (1, 1), (2, 1), (3, 1)]) (p1 := 36) (sa_newa (nv := ii 150) (k0 := 9) (p1 := 28) (p2 := 31) (ak_i 150 (Nat.le_of_ble_eq_true rfl)) cf_7 (e_aload_n (k0 := 0) d_Plan_init_27 rfl rfl) (e_sipush d_Plan_init_28 (by decide)) (by decide +kernel) d_Plan_init_31 (by decide) rfl tw_398 (Or.inr ⟨rfl, rfl, rfl⟩) d_Plan_init_33) (sa_seq (k1 := 1) (n1 := 5) (k2 := 1) (n2 := 6) (sl1 := [(0, 1), (1, 1), (2, 1), (3, 1)]) (p1 := 43) (sa_newa (nv := ii 5) (k0 := 10) (p1 := 37) (p2 := 38) (ak_i 5 (Nat.le_of_ble_eq_true rfl)) cf_7 (e_aload_n (k0 := 0) d_Plan_init_36 rfl rfl) (e_iconst d_Plan_init_37 (by decide)) (by decide +kernel) d_Plan_init_38 (by decide) rfl tw_399 (Or.inr ⟨rfl, rfl, rfl⟩) d_Plan_init_40) (sa_seq (k1 := 1) (n1 := 6) (k2 := 0) (n2 := 0) (sl1 := [(0, 1), (1, 1), (2, 1), (3, 1)]) (p1 := 51) (sa_newa (nv := ii 6) (k0 := 11) (p1 := 44) (p2 := 46) (ak_i 6 (Nat.le_of_ble_eq_true rfl)) cf_7 (e_aload_n (k0 := 0) d_Plan_init_43 rfl rfl) (e_bipush d_Plan_init_44 (by decide)) (by decide +kernel) d_Plan_init_46 (by decide) rfl tw_400 (Or.inr ⟨rfl, rfl, rfl⟩) d_Plan_init_48) (sa_seq (k1 := 0) (n1 := 0) (k2 := 0) (n2 := 0) (sl1 := [(0, 1), (1, 1), (2, 1), (3, 1)]) (p1 := 56) (sa_put (k0 := 12) (p1 := 52) (p2 := 53) cf_7 (e_aload_n (k0 := 0) d_Plan_init_51 rfl rfl) (e_iconst d_Plan_init_52 (by decide)) (by decide) fk_i tw_401 (Or.inl rfl) d_Plan_init_53) (sa_seq (k1 := 0) (n1 := 0) (k2 := 0) (n2 := 0) (sl1 := [(0, 1), (1, 1), (2, 1), (3, 1)]) (p1 := 61) (sa_put (k0 := 13) (p1 := 57) (p2 := 58) cf_7 (e_aload_n (k0 := 0) d_Plan_init_56 rfl rfl) (e_iconst d_Plan_init_57 (by decide)) (by decide) fk_i tw_402 (Or.inl rfl) d_Plan_init_58) (sa_seq (k1 := 0) (n1 := 0) (k2 := 0) (n2 := 0) (sl1 := [(0, 1), (1, 1), (2, 1), (3, 1)]) (p1 := 66) (sa_put (k0 := 4) (p1 := 62) (p2 := 63) cf_7 (e_aload_n (k0 := 0) d_Plan_init_61 rfl rfl) (e_aload_n (k0 := 1) d_Plan_init_62 rfl rfl) (by decide) fk_o tw_393 (Or.inr ⟨rfl, rfl, rfl⟩) d_Plan_init_63) (sa_seq (k1 := 0) (n1 := 0) (k2 := 0) (n2 := 0) (sl1 := [(0, 1), (1, 1), (2, 1), (3, 1)]) (p1 := 71) (sa_put (k0 := 5) (p1 := 67) (p2 := 68) cf_7 (e_aload_n (k0 := 0) d_Plan_init_66 rfl rfl) (e_aload_n (k0 := 2) d_Plan_init_67 rfl rfl) (by decide) fk_o tw_394 (Or.inr ⟨rfl, rfl, rfl⟩) d_Plan_init_68) (sa_put (k0 := 6) (p1 := 72) (p2 := 73) cf_7 (e_aload_n (k0 := 0) d_Plan_init_71 rfl rfl) (e_aload_n (k0 := 3) d_Plan_init_72 rfl rfl) (by decide) fk_o tw_395 (Or.inr ⟨rfl, rfl, rfl⟩) d_Plan_init_73))))))))))))) d_Plan_init_76
/-! BlinkerCross$Givings.<init>(LBlinkerCross$Text;LBlinkerCross$Scene;LBlinkerCross$Laws;)V -/
abbrev y_Givings_init : MethodName := ⟨"BlinkerCross$Givings", "<init>", "(LBlinkerCross$Text;LBlinkerCross$Scene;LBlinkerCross$Laws;)V"⟩
abbrev Y_Givings_init : Yt := (prog_3_method_1_code, 4, "BlinkerCross$Givings", 1, none, "<init>")
theorem d_Givings_init_0 : decode prog_3_method_1_code 0 = .ok (.aload_n 0, 1) := by decide +kernel
theorem d_Givings_init_1 : decode prog_3_method_1_code 1 = .ok (.invokespecial 3, 3) := by decide +kernel
theorem d_Givings_init_4 : decode prog_3_method_1_code 4 = .ok (.aload_n 0, 1) := by decide +kernel
theorem d_Givings_init_5 : decode prog_3_method_1_code 5 = .ok (.iconst 5, 1) := by decide +kernel
theorem d_Givings_init_6 : decode prog_3_method_1_code 6 = .ok (.newarray .int, 2) := by decide +kernel
theorem d_Givings_init_8 : decode prog_3_method_1_code 8 = .ok (.putfield 9, 3) := by decide +kernel
theorem d_Givings_init_11 : decode prog_3_method_1_code 11 = .ok (.aload_n 0, 1) := by decide +kernel
theorem d_Givings_init_12 : decode prog_3_method_1_code 12 = .ok (.iconst 5, 1) := by decide +kernel
theorem d_Givings_init_13 : decode prog_3_method_1_code 13 = .ok (.newarray .int, 2) := by decide +kernel
theorem d_Givings_init_15 : decode prog_3_method_1_code 15 = .ok (.putfield 15, 3) := by decide +kernel
theorem d_Givings_init_18 : decode prog_3_method_1_code 18 = .ok (.aload_n 0, 1) := by decide +kernel
theorem d_Givings_init_19 : decode prog_3_method_1_code 19 = .ok (.iconst 5, 1) := by decide +kernel
theorem d_Givings_init_20 : decode prog_3_method_1_code 20 = .ok (.newarray .int, 2) := by decide +kernel
theorem d_Givings_init_22 : decode prog_3_method_1_code 22 = .ok (.putfield 18, 3) := by decide +kernel
theorem d_Givings_init_25 : decode prog_3_method_1_code 25 = .ok (.aload_n 0, 1) := by decide +kernel
theorem d_Givings_init_26 : decode prog_3_method_1_code 26 = .ok (.sipush 150, 3) := by decide +kernel
theorem d_Givings_init_29 : decode prog_3_method_1_code 29 = .ok (.newarray .int, 2) := by decide +kernel
theorem d_Givings_init_31 : decode prog_3_method_1_code 31 = .ok (.putfield 21, 3) := by decide +kernel
theorem d_Givings_init_34 : decode prog_3_method_1_code 34 = .ok (.aload_n 0, 1) := by decide +kernel
theorem d_Givings_init_35 : decode prog_3_method_1_code 35 = .ok (.iconst 5, 1) := by decide +kernel
theorem d_Givings_init_36 : decode prog_3_method_1_code 36 = .ok (.newarray .int, 2) := by decide +kernel
theorem d_Givings_init_38 : decode prog_3_method_1_code 38 = .ok (.putfield 24, 3) := by decide +kernel
theorem d_Givings_init_41 : decode prog_3_method_1_code 41 = .ok (.aload_n 0, 1) := by decide +kernel
theorem d_Givings_init_42 : decode prog_3_method_1_code 42 = .ok (.bipush 6, 2) := by decide +kernel
theorem d_Givings_init_44 : decode prog_3_method_1_code 44 = .ok (.newarray .int, 2) := by decide +kernel
theorem d_Givings_init_46 : decode prog_3_method_1_code 46 = .ok (.putfield 27, 3) := by decide +kernel
theorem d_Givings_init_49 : decode prog_3_method_1_code 49 = .ok (.aload_n 0, 1) := by decide +kernel
theorem d_Givings_init_50 : decode prog_3_method_1_code 50 = .ok (.iconst (-1), 1) := by decide +kernel
theorem d_Givings_init_51 : decode prog_3_method_1_code 51 = .ok (.putfield 30, 3) := by decide +kernel
theorem d_Givings_init_54 : decode prog_3_method_1_code 54 = .ok (.aload_n 0, 1) := by decide +kernel
theorem d_Givings_init_55 : decode prog_3_method_1_code 55 = .ok (.iconst (-1), 1) := by decide +kernel
theorem d_Givings_init_56 : decode prog_3_method_1_code 56 = .ok (.putfield 34, 3) := by decide +kernel
theorem d_Givings_init_59 : decode prog_3_method_1_code 59 = .ok (.aload_n 0, 1) := by decide +kernel
theorem d_Givings_init_60 : decode prog_3_method_1_code 60 = .ok (.aload_n 1, 1) := by decide +kernel
theorem d_Givings_init_61 : decode prog_3_method_1_code 61 = .ok (.putfield 37, 3) := by decide +kernel
theorem d_Givings_init_64 : decode prog_3_method_1_code 64 = .ok (.aload_n 0, 1) := by decide +kernel
theorem d_Givings_init_65 : decode prog_3_method_1_code 65 = .ok (.aload_n 2, 1) := by decide +kernel
theorem d_Givings_init_66 : decode prog_3_method_1_code 66 = .ok (.putfield 41, 3) := by decide +kernel
theorem d_Givings_init_69 : decode prog_3_method_1_code 69 = .ok (.aload_n 0, 1) := by decide +kernel
theorem d_Givings_init_70 : decode prog_3_method_1_code 70 = .ok (.aload_n 3, 1) := by decide +kernel
theorem d_Givings_init_71 : decode prog_3_method_1_code 71 = .ok (.putfield 45, 3) := by decide +kernel
theorem d_Givings_init_74 : decode prog_3_method_1_code 74 = .ok (.return_, 1) := by decide +kernel
noncomputable def F_Givings_init : Sm := sSeq (sSeq (sDecl (asV Value.ref (vR 0))) (sBlk 4 sSkip)) (sSeq (sNewA 8 3 0 (5, .inl (fun _ => 0))) (sSeq (sNewA 8 4 0 (5, .inl (fun _ => 0))) (sSeq (sNewA 8 8 0 (5, .inl (fun _ => 0))) (sSeq (sNewA 8 9 0 (150, .inl (fun _ => 0))) (sSeq (sNewA 8 10 0 (5, .inl (fun _ => 0))) (sSeq (sNewA 8 11 0 (6, .inl (fun _ => 0))) (sSeq (sPut 8 13 (vR 0) (asV Value.int (kI (ii (-1))))) (sSeq (sPut 8 14 (vR 0) (asV Value.int (kI (ii (-1))))) (sSeq (sPut 8 5 (vR 0) (asV Value.ref (vR 1))) (sSeq (sPut 8 6 (vR 0) (asV Value.ref (vR 2))) (sPut 8 7 (vR 0) (asV Value.ref (vR 3)))))))))))))
noncomputable def D_Givings_init : Dn := runS [1, 1, 1, 1] (sSeq F_Givings_init sRetV)
theorem mf_Givings_init : Mf y_Givings_init prog_3_method_1_code 4 none 3 := ⟨tw_436, tw_130, by decide +kernel⟩
set_option maxRecDepth 100000 in
theorem ok_Givings_init : MOK y_Givings_init prog_3_method_1_code 4 none 1 6 176 D_Givings_init := MOK.init (by decide) (by decide) (by decide) (show SA Y_Givings_init [(0, 1), (1, 1), (2, 1), (3, 1)] [(0, 1), (1, 1), (2, 1), (3, 1)] 0 74 6 176 F_Givings_init from
  (sa_seq (k1 := 0) (n1 := 0) (k2 := 6) (n2 := 176) (sl1 := [(0, 1), (1, 1), (2, 1), (3, 1)]) (p1 := 4) (sa_super (p1 := 1) (e_aload_n (k0 := 0) d_Givings_init_0 rfl rfl) ⟨tw_437, tw_oi, tw_oc⟩ (by decide) d_Givings_init_1 (fun _ _ _ => Or.inr trivial)) (sa_seq (k1 := 1) (n1 := 5) (k2 := 5) (n2 := 171) (sl1 := [(0, 1), (1, 1), (2, 1), (3, 1)]) (p1 := 11) (sa_newa (nv := ii 5) (k0 := 3) (p1 := 5) (p2 := 6) (ak_i 5 (Nat.le_of_ble_eq_true rfl)) cf_8 (e_aload_n (k0 := 0) d_Givings_init_4 rfl rfl) (e_iconst d_Givings_init_5 (by decide)) (by decide +kernel) d_Givings_init_6 (by decide) rfl tw_444 (Or.inr ⟨rfl, rfl, rfl⟩) d_Givings_init_8) (sa_seq (k1 := 1) (n1 := 5) (k2 := 4) (n2 := 166) (sl1 := [(0, 1), (1, 1), (2, 1), (3, 1)]) (p1 := 18) (sa_newa (nv := ii 5) (k0 := 4) (p1 := 12) (p2 := 13) (ak_i 5 (Nat.le_of_ble_eq_true rfl)) cf_8 (e_aload_n (k0 := 0) d_Givings_init_11 rfl rfl) (e_iconst d_Givings_init_12 (by decide)) (by decide +kernel) d_Givings_init_13 (by decide) rfl tw_446 (Or.inr ⟨rfl, rfl, rfl⟩) d_Givings_init_15) (sa_seq (k1 := 1) (n1 := 5) (k2 := 3) (n2 := 161) (sl1 := [(0, 1), (1, 1), (2, 1), (3, 1)]) (p1 := 25) (sa_newa (nv := ii 5) (k0 := 8) (p1 := 19) (p2 := 20) (ak_i 5 (Nat.le_of_ble_eq_true rfl)) cf_8 (e_aload_n (k0 := 0) d_Givings_init_18 rfl rfl) (e_iconst d_Givings_init_19 (by decide)) (by decide +kernel) d_Givings_init_20 (by decide) rfl tw_451 (Or.inr ⟨rfl, rfl, rfl⟩) d_Givings_init_22) (sa_seq (k1 := 1) (n1 := 150) (k2 := 2) (n2 := 11) (sl1 := [(0, 1), (1, 1), (2, 1), (3, 1)]) (p1 := 34) (sa_newa (nv := ii 150) (k0 := 9) (p1 := 26) (p2 := 29) (ak_i 150 (Nat.le_of_ble_eq_true rfl)) cf_8 (e_aload_n (k0 := 0) d_Givings_init_25 rfl rfl) (e_sipush d_Givings_init_26 (by decide)) (by decide +kernel) d_Givings_init_29 (by decide) rfl tw_452 (Or.inr ⟨rfl, rfl, rfl⟩) d_Givings_init_31) (sa_seq (k1 := 1) (n1 := 5) (k2 := 1) (n2 := 6) (sl1 := [(0, 1), (1, 1), (2, 1), (3, 1)]) (p1 := 41) (sa_newa (nv := ii 5) (k0 := 10) (p1 := 35) (p2 := 36) (ak_i 5 (Nat.le_of_ble_eq_true rfl)) cf_8 (e_aload_n (k0 := 0) d_Givings_init_34 rfl rfl) (e_iconst d_Givings_init_35 (by decide)) (by decide +kernel) d_Givings_init_36 (by decide) rfl tw_453 (Or.inr ⟨rfl, rfl, rfl⟩) d_Givings_init_38) (sa_seq (k1 := 1) (n1 := 6) (k2 := 0) (n2 := 0) (sl1 := [(0, 1), (1, 1), (2, 1), (3, 1)]) (p1 := 49) (sa_newa (nv := ii 6) (k0 := 11) (p1 := 42) (p2 := 44) (ak_i 6 (Nat.le_of_ble_eq_true rfl)) cf_8 (e_aload_n (k0 := 0) d_Givings_init_41 rfl rfl) (e_bipush d_Givings_init_42 (by decide)) (by decide +kernel) d_Givings_init_44 (by decide) rfl tw_454 (Or.inr ⟨rfl, rfl, rfl⟩) d_Givings_init_46) (sa_seq (k1 := 0) (n1 := 0) (k2 := 0) (n2 := 0) (sl1 := [(0, 1), (1, 1), (2, 1), (3, 1)]) (p1 := 54) (sa_put (k0 := 13) (p1 := 50) (p2 := 51) cf_8 (e_aload_n (k0 := 0) d_Givings_init_49 rfl rfl) (e_iconst d_Givings_init_50 (by decide)) (by decide) fk_i tw_456 (Or.inl rfl) d_Givings_init_51) (sa_seq (k1 := 0) (n1 := 0) (k2 := 0) (n2 := 0) (sl1 := [(0, 1), (1, 1), (2, 1), (3, 1)]) (p1 := 59) (sa_put (k0 := 14) (p1 := 55) (p2 := 56) cf_8 (e_aload_n (k0 := 0) d_Givings_init_54 rfl rfl) (e_iconst d_Givings_init_55 (by decide)) (by decide) fk_i tw_457 (Or.inl rfl) d_Givings_init_56) (sa_seq (k1 := 0) (n1 := 0) (k2 := 0) (n2 := 0) (sl1 := [(0, 1), (1, 1), (2, 1), (3, 1)]) (p1 := 64) (sa_put (k0 := 5) (p1 := 60) (p2 := 61) cf_8 (e_aload_n (k0 := 0) d_Givings_init_59 rfl rfl) (e_aload_n (k0 := 1) d_Givings_init_60 rfl rfl) (by decide) fk_o tw_448 (Or.inr ⟨rfl, rfl, rfl⟩) d_Givings_init_61) (sa_seq (k1 := 0) (n1 := 0) (k2 := 0) (n2 := 0) (sl1 := [(0, 1), (1, 1), (2, 1), (3, 1)]) (p1 := 69) (sa_put (k0 := 6) (p1 := 65) (p2 := 66) cf_8 (e_aload_n (k0 := 0) d_Givings_init_64 rfl rfl) (e_aload_n (k0 := 2) d_Givings_init_65 rfl rfl) (by decide) fk_o tw_449 (Or.inr ⟨rfl, rfl, rfl⟩) d_Givings_init_66) (sa_put (k0 := 7) (p1 := 70) (p2 := 71) cf_8 (e_aload_n (k0 := 0) d_Givings_init_69 rfl rfl) (e_aload_n (k0 := 3) d_Givings_init_70 rfl rfl) (by decide) fk_o tw_450 (Or.inr ⟨rfl, rfl, rfl⟩) d_Givings_init_71))))))))))))) d_Givings_init_74
/-! BlinkerCross$Sharing.<init>(LBlinkerCross$Text;LBlinkerCross$Scene;)V -/
abbrev y_Sharing_init : MethodName := ⟨"BlinkerCross$Sharing", "<init>", "(LBlinkerCross$Text;LBlinkerCross$Scene;)V"⟩
abbrev Y_Sharing_init : Yt := (prog_9_method_1_code, 3, "BlinkerCross$Sharing", 1, none, "<init>")
theorem d_Sharing_init_0 : decode prog_9_method_1_code 0 = .ok (.aload_n 0, 1) := by decide +kernel
theorem d_Sharing_init_1 : decode prog_9_method_1_code 1 = .ok (.invokespecial 3, 3) := by decide +kernel
theorem d_Sharing_init_4 : decode prog_9_method_1_code 4 = .ok (.aload_n 0, 1) := by decide +kernel
theorem d_Sharing_init_5 : decode prog_9_method_1_code 5 = .ok (.iconst 5, 1) := by decide +kernel
theorem d_Sharing_init_6 : decode prog_9_method_1_code 6 = .ok (.newarray .int, 2) := by decide +kernel
theorem d_Sharing_init_8 : decode prog_9_method_1_code 8 = .ok (.putfield 9, 3) := by decide +kernel
theorem d_Sharing_init_11 : decode prog_9_method_1_code 11 = .ok (.aload_n 0, 1) := by decide +kernel
theorem d_Sharing_init_12 : decode prog_9_method_1_code 12 = .ok (.bipush 6, 2) := by decide +kernel
theorem d_Sharing_init_14 : decode prog_9_method_1_code 14 = .ok (.bipush 64, 2) := by decide +kernel
theorem d_Sharing_init_16 : decode prog_9_method_1_code 16 = .ok (.multianewarray 15 2, 4) := by decide +kernel
theorem d_Sharing_init_20 : decode prog_9_method_1_code 20 = .ok (.putfield 17, 3) := by decide +kernel
theorem d_Sharing_init_23 : decode prog_9_method_1_code 23 = .ok (.aload_n 0, 1) := by decide +kernel
theorem d_Sharing_init_24 : decode prog_9_method_1_code 24 = .ok (.aload_n 1, 1) := by decide +kernel
theorem d_Sharing_init_25 : decode prog_9_method_1_code 25 = .ok (.putfield 20, 3) := by decide +kernel
theorem d_Sharing_init_28 : decode prog_9_method_1_code 28 = .ok (.aload_n 0, 1) := by decide +kernel
theorem d_Sharing_init_29 : decode prog_9_method_1_code 29 = .ok (.aload_n 2, 1) := by decide +kernel
theorem d_Sharing_init_30 : decode prog_9_method_1_code 30 = .ok (.putfield 24, 3) := by decide +kernel
theorem d_Sharing_init_33 : decode prog_9_method_1_code 33 = .ok (.return_, 1) := by decide +kernel
noncomputable def F_Sharing_init : Sm := sSeq (sSeq (sDecl (asV Value.ref (vR 0))) (sBlk 3 sSkip)) (sSeq (sNewA 9 0 0 (5, .inl (fun _ => 0))) (sSeq (sNewM 9 3 6 64) (sSeq (sPut 9 1 (vR 0) (asV Value.ref (vR 1))) (sPut 9 2 (vR 0) (asV Value.ref (vR 2))))))
noncomputable def D_Sharing_init : Dn := runS [1, 1, 1] (sSeq F_Sharing_init sRetV)
theorem mf_Sharing_init : Mf y_Sharing_init prog_9_method_1_code 3 none 2 := ⟨tw_493, tw_131, by decide +kernel⟩
set_option maxRecDepth 100000 in
theorem ok_Sharing_init : MOK y_Sharing_init prog_9_method_1_code 3 none 1 8 395 D_Sharing_init := MOK.init (by decide) (by decide) (by decide) (show SA Y_Sharing_init [(0, 1), (1, 1), (2, 1)] [(0, 1), (1, 1), (2, 1)] 0 33 8 395 F_Sharing_init from
  (sa_seq (k1 := 0) (n1 := 0) (k2 := 8) (n2 := 395) (sl1 := [(0, 1), (1, 1), (2, 1)]) (p1 := 4) (sa_super (p1 := 1) (e_aload_n (k0 := 0) d_Sharing_init_0 rfl rfl) ⟨tw_494, tw_oi, tw_oc⟩ (by decide) d_Sharing_init_1 (fun _ _ _ => Or.inr trivial)) (sa_seq (k1 := 1) (n1 := 5) (k2 := 7) (n2 := 390) (sl1 := [(0, 1), (1, 1), (2, 1)]) (p1 := 11) (sa_newa (nv := ii 5) (k0 := 0) (p1 := 5) (p2 := 6) (ak_i 5 (Nat.le_of_ble_eq_true rfl)) cf_9 (e_aload_n (k0 := 0) d_Sharing_init_4 rfl rfl) (e_iconst d_Sharing_init_5 (by decide)) (by decide +kernel) d_Sharing_init_6 (by decide) rfl tw_497 (Or.inr ⟨rfl, rfl, rfl⟩) d_Sharing_init_8) (sa_seq (k1 := 7) (n1 := 390) (k2 := 0) (n2 := 0) (sl1 := [(0, 1), (1, 1), (2, 1)]) (p1 := 23) (sa_newm (nv := ii 6) (mv := ii 64) (k0 := 3) (p1 := 12) (p2 := 14) (p3 := 16) (n := 6) (m := 64) cf_9 (e_aload_n (k0 := 0) d_Sharing_init_11 rfl rfl) (e_bipush d_Sharing_init_12 (by decide)) (e_bipush d_Sharing_init_14 (by decide)) (by decide +kernel) (by decide +kernel) tw_495 tw_176 ⟨Nat.le_of_ble_eq_true rfl, Nat.le_of_ble_eq_true rfl⟩ d_Sharing_init_16 (by decide) rfl tw_501 (Or.inr ⟨rfl, rfl, rfl⟩) d_Sharing_init_20) (sa_seq (k1 := 0) (n1 := 0) (k2 := 0) (n2 := 0) (sl1 := [(0, 1), (1, 1), (2, 1)]) (p1 := 28) (sa_put (k0 := 1) (p1 := 24) (p2 := 25) cf_9 (e_aload_n (k0 := 0) d_Sharing_init_23 rfl rfl) (e_aload_n (k0 := 1) d_Sharing_init_24 rfl rfl) (by decide) fk_o tw_499 (Or.inr ⟨rfl, rfl, rfl⟩) d_Sharing_init_25) (sa_put (k0 := 2) (p1 := 29) (p2 := 30) cf_9 (e_aload_n (k0 := 0) d_Sharing_init_28 rfl rfl) (e_aload_n (k0 := 2) d_Sharing_init_29 rfl rfl) (by decide) fk_o tw_500 (Or.inr ⟨rfl, rfl, rfl⟩) d_Sharing_init_30)))))) d_Sharing_init_33
/-! BlinkerCross$Told.<init>(LBlinkerCross$Text;LBlinkerCross$Scene;LBlinkerCross$Laws;)V -/
abbrev y_Told_init : MethodName := ⟨"BlinkerCross$Told", "<init>", "(LBlinkerCross$Text;LBlinkerCross$Scene;LBlinkerCross$Laws;)V"⟩
abbrev Y_Told_init : Yt := (prog_12_method_1_code, 4, "BlinkerCross$Told", 1, none, "<init>")
theorem d_Told_init_0 : decode prog_12_method_1_code 0 = .ok (.aload_n 0, 1) := by decide +kernel
theorem d_Told_init_1 : decode prog_12_method_1_code 1 = .ok (.invokespecial 3, 3) := by decide +kernel
theorem d_Told_init_4 : decode prog_12_method_1_code 4 = .ok (.aload_n 0, 1) := by decide +kernel
theorem d_Told_init_5 : decode prog_12_method_1_code 5 = .ok (.bipush 20, 2) := by decide +kernel
theorem d_Told_init_7 : decode prog_12_method_1_code 7 = .ok (.newarray .int, 2) := by decide +kernel
theorem d_Told_init_9 : decode prog_12_method_1_code 9 = .ok (.putfield 9, 3) := by decide +kernel
theorem d_Told_init_12 : decode prog_12_method_1_code 12 = .ok (.aload_n 0, 1) := by decide +kernel
theorem d_Told_init_13 : decode prog_12_method_1_code 13 = .ok (.bipush 20, 2) := by decide +kernel
theorem d_Told_init_15 : decode prog_12_method_1_code 15 = .ok (.newarray .int, 2) := by decide +kernel
theorem d_Told_init_17 : decode prog_12_method_1_code 17 = .ok (.putfield 15, 3) := by decide +kernel
theorem d_Told_init_20 : decode prog_12_method_1_code 20 = .ok (.aload_n 0, 1) := by decide +kernel
theorem d_Told_init_21 : decode prog_12_method_1_code 21 = .ok (.bipush 20, 2) := by decide +kernel
theorem d_Told_init_23 : decode prog_12_method_1_code 23 = .ok (.newarray .boolean, 2) := by decide +kernel
theorem d_Told_init_25 : decode prog_12_method_1_code 25 = .ok (.putfield 18, 3) := by decide +kernel
theorem d_Told_init_28 : decode prog_12_method_1_code 28 = .ok (.aload_n 0, 1) := by decide +kernel
theorem d_Told_init_29 : decode prog_12_method_1_code 29 = .ok (.aload_n 1, 1) := by decide +kernel
theorem d_Told_init_30 : decode prog_12_method_1_code 30 = .ok (.putfield 22, 3) := by decide +kernel
theorem d_Told_init_33 : decode prog_12_method_1_code 33 = .ok (.aload_n 0, 1) := by decide +kernel
theorem d_Told_init_34 : decode prog_12_method_1_code 34 = .ok (.aload_n 2, 1) := by decide +kernel
theorem d_Told_init_35 : decode prog_12_method_1_code 35 = .ok (.putfield 26, 3) := by decide +kernel
theorem d_Told_init_38 : decode prog_12_method_1_code 38 = .ok (.aload_n 0, 1) := by decide +kernel
theorem d_Told_init_39 : decode prog_12_method_1_code 39 = .ok (.aload_n 3, 1) := by decide +kernel
theorem d_Told_init_40 : decode prog_12_method_1_code 40 = .ok (.putfield 30, 3) := by decide +kernel
theorem d_Told_init_43 : decode prog_12_method_1_code 43 = .ok (.return_, 1) := by decide +kernel
noncomputable def F_Told_init : Sm := sSeq (sSeq (sDecl (asV Value.ref (vR 0))) (sBlk 4 sSkip)) (sSeq (sNewA 10 4 0 (20, .inl (fun _ => 0))) (sSeq (sNewA 10 5 0 (20, .inl (fun _ => 0))) (sSeq (sNewA 10 6 3 (20, .inl (fun _ => 0))) (sSeq (sPut 10 1 (vR 0) (asV Value.ref (vR 1))) (sSeq (sPut 10 2 (vR 0) (asV Value.ref (vR 2))) (sPut 10 3 (vR 0) (asV Value.ref (vR 3))))))))
noncomputable def D_Told_init : Dn := runS [1, 1, 1, 1] (sSeq F_Told_init sRetV)
theorem mf_Told_init : Mf y_Told_init prog_12_method_1_code 4 none 3 := ⟨tw_515, tw_132, by decide +kernel⟩
set_option maxRecDepth 100000 in
theorem ok_Told_init : MOK y_Told_init prog_12_method_1_code 4 none 1 3 60 D_Told_init := MOK.init (by decide) (by decide) (by decide) (show SA Y_Told_init [(0, 1), (1, 1), (2, 1), (3, 1)] [(0, 1), (1, 1), (2, 1), (3, 1)] 0 43 3 60 F_Told_init from
  (sa_seq (k1 := 0) (n1 := 0) (k2 := 3) (n2 := 60) (sl1 := [(0, 1), (1, 1), (2, 1), (3, 1)]) (p1 := 4) (sa_super (p1 := 1) (e_aload_n (k0 := 0) d_Told_init_0 rfl rfl) ⟨tw_516, tw_oi, tw_oc⟩ (by decide) d_Told_init_1 (fun _ _ _ => Or.inr trivial)) (sa_seq (k1 := 1) (n1 := 20) (k2 := 2) (n2 := 40) (sl1 := [(0, 1), (1, 1), (2, 1), (3, 1)]) (p1 := 12) (sa_newa (nv := ii 20) (k0 := 4) (p1 := 5) (p2 := 7) (ak_i 20 (Nat.le_of_ble_eq_true rfl)) cf_10 (e_aload_n (k0 := 0) d_Told_init_4 rfl rfl) (e_bipush d_Told_init_5 (by decide)) (by decide +kernel) d_Told_init_7 (by decide) rfl tw_522 (Or.inr ⟨rfl, rfl, rfl⟩) d_Told_init_9) (sa_seq (k1 := 1) (n1 := 20) (k2 := 1) (n2 := 20) (sl1 := [(0, 1), (1, 1), (2, 1), (3, 1)]) (p1 := 20) (sa_newa (nv := ii 20) (k0 := 5) (p1 := 13) (p2 := 15) (ak_i 20 (Nat.le_of_ble_eq_true rfl)) cf_10 (e_aload_n (k0 := 0) d_Told_init_12 rfl rfl) (e_bipush d_Told_init_13 (by decide)) (by decide +kernel) d_Told_init_15 (by decide) rfl tw_523 (Or.inr ⟨rfl, rfl, rfl⟩) d_Told_init_17) (sa_seq (k1 := 1) (n1 := 20) (k2 := 0) (n2 := 0) (sl1 := [(0, 1), (1, 1), (2, 1), (3, 1)]) (p1 := 28) (sa_newa (nv := ii 20) (k0 := 6) (p1 := 21) (p2 := 23) (ak_z 20 (Nat.le_of_ble_eq_true rfl)) cf_10 (e_aload_n (k0 := 0) d_Told_init_20 rfl rfl) (e_bipush d_Told_init_21 (by decide)) (by decide +kernel) d_Told_init_23 (by decide) rfl tw_524 (Or.inr ⟨rfl, rfl, rfl⟩) d_Told_init_25) (sa_seq (k1 := 0) (n1 := 0) (k2 := 0) (n2 := 0) (sl1 := [(0, 1), (1, 1), (2, 1), (3, 1)]) (p1 := 33) (sa_put (k0 := 1) (p1 := 29) (p2 := 30) cf_10 (e_aload_n (k0 := 0) d_Told_init_28 rfl rfl) (e_aload_n (k0 := 1) d_Told_init_29 rfl rfl) (by decide) fk_o tw_519 (Or.inr ⟨rfl, rfl, rfl⟩) d_Told_init_30) (sa_seq (k1 := 0) (n1 := 0) (k2 := 0) (n2 := 0) (sl1 := [(0, 1), (1, 1), (2, 1), (3, 1)]) (p1 := 38) (sa_put (k0 := 2) (p1 := 34) (p2 := 35) cf_10 (e_aload_n (k0 := 0) d_Told_init_33 rfl rfl) (e_aload_n (k0 := 2) d_Told_init_34 rfl rfl) (by decide) fk_o tw_520 (Or.inr ⟨rfl, rfl, rfl⟩) d_Told_init_35) (sa_put (k0 := 3) (p1 := 39) (p2 := 40) cf_10 (e_aload_n (k0 := 0) d_Told_init_38 rfl rfl) (e_aload_n (k0 := 3) d_Told_init_39 rfl rfl) (by decide) fk_o tw_521 (Or.inr ⟨rfl, rfl, rfl⟩) d_Told_init_40)))))))) d_Told_init_43
/-! BlinkerCross$History.<init>()V -/
abbrev y_History_init : MethodName := ⟨"BlinkerCross$History", "<init>", "()V"⟩
abbrev Y_History_init : Yt := (prog_4_method_1_code, 1, "BlinkerCross$History", 1, none, "<init>")
theorem d_History_init_0 : decode prog_4_method_1_code 0 = .ok (.aload_n 0, 1) := by decide +kernel
theorem d_History_init_1 : decode prog_4_method_1_code 1 = .ok (.invokespecial 3, 3) := by decide +kernel
theorem d_History_init_4 : decode prog_4_method_1_code 4 = .ok (.aload_n 0, 1) := by decide +kernel
theorem d_History_init_5 : decode prog_4_method_1_code 5 = .ok (.bipush 40, 2) := by decide +kernel
theorem d_History_init_7 : decode prog_4_method_1_code 7 = .ok (.bipush 56, 2) := by decide +kernel
theorem d_History_init_9 : decode prog_4_method_1_code 9 = .ok (.multianewarray 9 2, 4) := by decide +kernel
theorem d_History_init_13 : decode prog_4_method_1_code 13 = .ok (.putfield 11, 3) := by decide +kernel
theorem d_History_init_16 : decode prog_4_method_1_code 16 = .ok (.aload_n 0, 1) := by decide +kernel
theorem d_History_init_17 : decode prog_4_method_1_code 17 = .ok (.iconst 3, 1) := by decide +kernel
theorem d_History_init_18 : decode prog_4_method_1_code 18 = .ok (.bipush 56, 2) := by decide +kernel
theorem d_History_init_20 : decode prog_4_method_1_code 20 = .ok (.multianewarray 9 2, 4) := by decide +kernel
theorem d_History_init_24 : decode prog_4_method_1_code 24 = .ok (.putfield 16, 3) := by decide +kernel
theorem d_History_init_27 : decode prog_4_method_1_code 27 = .ok (.aload_n 0, 1) := by decide +kernel
theorem d_History_init_28 : decode prog_4_method_1_code 28 = .ok (.iconst 3, 1) := by decide +kernel
theorem d_History_init_29 : decode prog_4_method_1_code 29 = .ok (.newarray .boolean, 2) := by decide +kernel
theorem d_History_init_31 : decode prog_4_method_1_code 31 = .ok (.putfield 19, 3) := by decide +kernel
theorem d_History_init_34 : decode prog_4_method_1_code 34 = .ok (.return_, 1) := by decide +kernel
noncomputable def F_History_init : Sm := sSeq (sSeq (sDecl (asV Value.ref (vR 0))) (sBlk 1 sSkip)) (sSeq (sNewM 11 1 40 56) (sSeq (sNewM 11 3 3 56) (sNewA 11 4 3 (3, .inl (fun _ => 0)))))
noncomputable def D_History_init : Dn := runS [1] (sSeq F_History_init sRetV)
theorem mf_History_init : Mf y_History_init prog_4_method_1_code 1 none 0 := ⟨tw_545, tw_133, by decide +kernel⟩
set_option maxRecDepth 100000 in
theorem ok_History_init : MOK y_History_init prog_4_method_1_code 1 none 1 46 2454 D_History_init := MOK.init (by decide) (by decide) (by decide) (show SA Y_History_init [(0, 1)] [(0, 1)] 0 34 46 2454 F_History_init from
  (sa_seq (k1 := 0) (n1 := 0) (k2 := 46) (n2 := 2454) (sl1 := [(0, 1)]) (p1 := 4) (sa_super (p1 := 1) (e_aload_n (k0 := 0) d_History_init_0 rfl rfl) ⟨tw_546, tw_oi, tw_oc⟩ (by decide) d_History_init_1 (fun _ _ _ => Or.inr trivial)) (sa_seq (k1 := 41) (n1 := 2280) (k2 := 5) (n2 := 174) (sl1 := [(0, 1)]) (p1 := 16) (sa_newm (nv := ii 40) (mv := ii 56) (k0 := 1) (p1 := 5) (p2 := 7) (p3 := 9) (n := 40) (m := 56) cf_11 (e_aload_n (k0 := 0) d_History_init_4 rfl rfl) (e_bipush d_History_init_5 (by decide)) (e_bipush d_History_init_7 (by decide)) (by decide +kernel) (by decide +kernel) tw_547 tw_176 ⟨Nat.le_of_ble_eq_true rfl, Nat.le_of_ble_eq_true rfl⟩ d_History_init_9 (by decide) rfl tw_550 (Or.inr ⟨rfl, rfl, rfl⟩) d_History_init_13) (sa_seq (k1 := 4) (n1 := 171) (k2 := 1) (n2 := 3) (sl1 := [(0, 1)]) (p1 := 27) (sa_newm (nv := ii 3) (mv := ii 56) (k0 := 3) (p1 := 17) (p2 := 18) (p3 := 20) (n := 3) (m := 56) cf_11 (e_aload_n (k0 := 0) d_History_init_16 rfl rfl) (e_iconst d_History_init_17 (by decide)) (e_bipush d_History_init_18 (by decide)) (by decide +kernel) (by decide +kernel) tw_547 tw_176 ⟨Nat.le_of_ble_eq_true rfl, Nat.le_of_ble_eq_true rfl⟩ d_History_init_20 (by decide) rfl tw_552 (Or.inr ⟨rfl, rfl, rfl⟩) d_History_init_24) (sa_newa (nv := ii 3) (k0 := 4) (p1 := 28) (p2 := 29) (ak_z 3 (Nat.le_of_ble_eq_true rfl)) cf_11 (e_aload_n (k0 := 0) d_History_init_27 rfl rfl) (e_iconst d_History_init_28 (by decide)) (by decide +kernel) d_History_init_29 (by decide) rfl tw_553 (Or.inr ⟨rfl, rfl, rfl⟩) d_History_init_31))))) d_History_init_34
/-! BlinkerCross.<init>()V -/
abbrev y_X_init : MethodName := ⟨"BlinkerCross", "<init>", "()V"⟩
abbrev Y_X_init : Yt := (prog_1_method_1_code, 1, "BlinkerCross", 6, none, "<init>")
theorem d_X_init_0 : decode prog_1_method_1_code 0 = .ok (.aload_n 0, 1) := by decide +kernel
theorem d_X_init_1 : decode prog_1_method_1_code 1 = .ok (.invokespecial 3, 3) := by decide +kernel
theorem d_X_init_4 : decode prog_1_method_1_code 4 = .ok (.aload_n 0, 1) := by decide +kernel
theorem d_X_init_5 : decode prog_1_method_1_code 5 = .ok (.new 9, 3) := by decide +kernel
theorem d_X_init_8 : decode prog_1_method_1_code 8 = .ok (.dup, 1) := by decide +kernel
theorem d_X_init_9 : decode prog_1_method_1_code 9 = .ok (.invokespecial 11, 3) := by decide +kernel
theorem d_X_init_12 : decode prog_1_method_1_code 12 = .ok (.putfield 12, 3) := by decide +kernel
theorem d_X_init_15 : decode prog_1_method_1_code 15 = .ok (.aload_n 0, 1) := by decide +kernel
theorem d_X_init_16 : decode prog_1_method_1_code 16 = .ok (.new 16, 3) := by decide +kernel
theorem d_X_init_19 : decode prog_1_method_1_code 19 = .ok (.dup, 1) := by decide +kernel
theorem d_X_init_20 : decode prog_1_method_1_code 20 = .ok (.invokespecial 18, 3) := by decide +kernel
theorem d_X_init_23 : decode prog_1_method_1_code 23 = .ok (.putfield 19, 3) := by decide +kernel
theorem d_X_init_26 : decode prog_1_method_1_code 26 = .ok (.aload_n 0, 1) := by decide +kernel
theorem d_X_init_27 : decode prog_1_method_1_code 27 = .ok (.new 23, 3) := by decide +kernel
theorem d_X_init_30 : decode prog_1_method_1_code 30 = .ok (.dup, 1) := by decide +kernel
theorem d_X_init_31 : decode prog_1_method_1_code 31 = .ok (.aload_n 0, 1) := by decide +kernel
theorem d_X_init_32 : decode prog_1_method_1_code 32 = .ok (.getfield 12, 3) := by decide +kernel
theorem d_X_init_35 : decode prog_1_method_1_code 35 = .ok (.invokespecial 25, 3) := by decide +kernel
theorem d_X_init_38 : decode prog_1_method_1_code 38 = .ok (.putfield 28, 3) := by decide +kernel
theorem d_X_init_41 : decode prog_1_method_1_code 41 = .ok (.aload_n 0, 1) := by decide +kernel
theorem d_X_init_42 : decode prog_1_method_1_code 42 = .ok (.new 32, 3) := by decide +kernel
theorem d_X_init_45 : decode prog_1_method_1_code 45 = .ok (.dup, 1) := by decide +kernel
theorem d_X_init_46 : decode prog_1_method_1_code 46 = .ok (.aload_n 0, 1) := by decide +kernel
theorem d_X_init_47 : decode prog_1_method_1_code 47 = .ok (.getfield 19, 3) := by decide +kernel
theorem d_X_init_50 : decode prog_1_method_1_code 50 = .ok (.invokespecial 34, 3) := by decide +kernel
theorem d_X_init_53 : decode prog_1_method_1_code 53 = .ok (.putfield 37, 3) := by decide +kernel
theorem d_X_init_56 : decode prog_1_method_1_code 56 = .ok (.aload_n 0, 1) := by decide +kernel
theorem d_X_init_57 : decode prog_1_method_1_code 57 = .ok (.new 41, 3) := by decide +kernel
theorem d_X_init_60 : decode prog_1_method_1_code 60 = .ok (.dup, 1) := by decide +kernel
theorem d_X_init_61 : decode prog_1_method_1_code 61 = .ok (.aload_n 0, 1) := by decide +kernel
theorem d_X_init_62 : decode prog_1_method_1_code 62 = .ok (.getfield 19, 3) := by decide +kernel
theorem d_X_init_65 : decode prog_1_method_1_code 65 = .ok (.invokespecial 43, 3) := by decide +kernel
theorem d_X_init_68 : decode prog_1_method_1_code 68 = .ok (.putfield 44, 3) := by decide +kernel
theorem d_X_init_71 : decode prog_1_method_1_code 71 = .ok (.aload_n 0, 1) := by decide +kernel
theorem d_X_init_72 : decode prog_1_method_1_code 72 = .ok (.new 48, 3) := by decide +kernel
theorem d_X_init_75 : decode prog_1_method_1_code 75 = .ok (.dup, 1) := by decide +kernel
theorem d_X_init_76 : decode prog_1_method_1_code 76 = .ok (.aload_n 0, 1) := by decide +kernel
theorem d_X_init_77 : decode prog_1_method_1_code 77 = .ok (.getfield 19, 3) := by decide +kernel
theorem d_X_init_80 : decode prog_1_method_1_code 80 = .ok (.aload_n 0, 1) := by decide +kernel
theorem d_X_init_81 : decode prog_1_method_1_code 81 = .ok (.getfield 44, 3) := by decide +kernel
theorem d_X_init_84 : decode prog_1_method_1_code 84 = .ok (.invokespecial 50, 3) := by decide +kernel
theorem d_X_init_87 : decode prog_1_method_1_code 87 = .ok (.putfield 53, 3) := by decide +kernel
theorem d_X_init_90 : decode prog_1_method_1_code 90 = .ok (.aload_n 0, 1) := by decide +kernel
theorem d_X_init_91 : decode prog_1_method_1_code 91 = .ok (.new 57, 3) := by decide +kernel
theorem d_X_init_94 : decode prog_1_method_1_code 94 = .ok (.dup, 1) := by decide +kernel
theorem d_X_init_95 : decode prog_1_method_1_code 95 = .ok (.aload_n 0, 1) := by decide +kernel
theorem d_X_init_96 : decode prog_1_method_1_code 96 = .ok (.getfield 19, 3) := by decide +kernel
theorem d_X_init_99 : decode prog_1_method_1_code 99 = .ok (.aload_n 0, 1) := by decide +kernel
theorem d_X_init_100 : decode prog_1_method_1_code 100 = .ok (.getfield 37, 3) := by decide +kernel
theorem d_X_init_103 : decode prog_1_method_1_code 103 = .ok (.aload_n 0, 1) := by decide +kernel
theorem d_X_init_104 : decode prog_1_method_1_code 104 = .ok (.getfield 44, 3) := by decide +kernel
theorem d_X_init_107 : decode prog_1_method_1_code 107 = .ok (.invokespecial 59, 3) := by decide +kernel
theorem d_X_init_110 : decode prog_1_method_1_code 110 = .ok (.putfield 62, 3) := by decide +kernel
theorem d_X_init_113 : decode prog_1_method_1_code 113 = .ok (.aload_n 0, 1) := by decide +kernel
theorem d_X_init_114 : decode prog_1_method_1_code 114 = .ok (.new 66, 3) := by decide +kernel
theorem d_X_init_117 : decode prog_1_method_1_code 117 = .ok (.dup, 1) := by decide +kernel
theorem d_X_init_118 : decode prog_1_method_1_code 118 = .ok (.aload_n 0, 1) := by decide +kernel
theorem d_X_init_119 : decode prog_1_method_1_code 119 = .ok (.getfield 19, 3) := by decide +kernel
theorem d_X_init_122 : decode prog_1_method_1_code 122 = .ok (.aload_n 0, 1) := by decide +kernel
theorem d_X_init_123 : decode prog_1_method_1_code 123 = .ok (.getfield 37, 3) := by decide +kernel
theorem d_X_init_126 : decode prog_1_method_1_code 126 = .ok (.aload_n 0, 1) := by decide +kernel
theorem d_X_init_127 : decode prog_1_method_1_code 127 = .ok (.getfield 44, 3) := by decide +kernel
theorem d_X_init_130 : decode prog_1_method_1_code 130 = .ok (.invokespecial 68, 3) := by decide +kernel
theorem d_X_init_133 : decode prog_1_method_1_code 133 = .ok (.putfield 69, 3) := by decide +kernel
theorem d_X_init_136 : decode prog_1_method_1_code 136 = .ok (.aload_n 0, 1) := by decide +kernel
theorem d_X_init_137 : decode prog_1_method_1_code 137 = .ok (.new 73, 3) := by decide +kernel
theorem d_X_init_140 : decode prog_1_method_1_code 140 = .ok (.dup, 1) := by decide +kernel
theorem d_X_init_141 : decode prog_1_method_1_code 141 = .ok (.aload_n 0, 1) := by decide +kernel
theorem d_X_init_142 : decode prog_1_method_1_code 142 = .ok (.getfield 19, 3) := by decide +kernel
theorem d_X_init_145 : decode prog_1_method_1_code 145 = .ok (.aload_n 0, 1) := by decide +kernel
theorem d_X_init_146 : decode prog_1_method_1_code 146 = .ok (.getfield 37, 3) := by decide +kernel
theorem d_X_init_149 : decode prog_1_method_1_code 149 = .ok (.invokespecial 75, 3) := by decide +kernel
theorem d_X_init_152 : decode prog_1_method_1_code 152 = .ok (.putfield 78, 3) := by decide +kernel
theorem d_X_init_155 : decode prog_1_method_1_code 155 = .ok (.aload_n 0, 1) := by decide +kernel
theorem d_X_init_156 : decode prog_1_method_1_code 156 = .ok (.new 82, 3) := by decide +kernel
theorem d_X_init_159 : decode prog_1_method_1_code 159 = .ok (.dup, 1) := by decide +kernel
theorem d_X_init_160 : decode prog_1_method_1_code 160 = .ok (.aload_n 0, 1) := by decide +kernel
theorem d_X_init_161 : decode prog_1_method_1_code 161 = .ok (.getfield 19, 3) := by decide +kernel
theorem d_X_init_164 : decode prog_1_method_1_code 164 = .ok (.aload_n 0, 1) := by decide +kernel
theorem d_X_init_165 : decode prog_1_method_1_code 165 = .ok (.getfield 37, 3) := by decide +kernel
theorem d_X_init_168 : decode prog_1_method_1_code 168 = .ok (.aload_n 0, 1) := by decide +kernel
theorem d_X_init_169 : decode prog_1_method_1_code 169 = .ok (.getfield 44, 3) := by decide +kernel
theorem d_X_init_172 : decode prog_1_method_1_code 172 = .ok (.invokespecial 84, 3) := by decide +kernel
theorem d_X_init_175 : decode prog_1_method_1_code 175 = .ok (.putfield 85, 3) := by decide +kernel
theorem d_X_init_178 : decode prog_1_method_1_code 178 = .ok (.aload_n 0, 1) := by decide +kernel
theorem d_X_init_179 : decode prog_1_method_1_code 179 = .ok (.new 89, 3) := by decide +kernel
theorem d_X_init_182 : decode prog_1_method_1_code 182 = .ok (.dup, 1) := by decide +kernel
theorem d_X_init_183 : decode prog_1_method_1_code 183 = .ok (.invokespecial 91, 3) := by decide +kernel
theorem d_X_init_186 : decode prog_1_method_1_code 186 = .ok (.putfield 92, 3) := by decide +kernel
theorem d_X_init_189 : decode prog_1_method_1_code 189 = .ok (.return_, 1) := by decide +kernel
noncomputable def F_X_init : Sm := sSeq (sSeq (sDecl (asV Value.ref (vR 0))) (sBlk 1 sSkip)) (sSeq (sNewO 0 0 1 df_1 D_Tape_init []) (sSeq (sNewO 0 1 2 df_2 D_Text_init []) (sSeq (sNewO 0 2 3 df_3 D_Parser_init [asV Value.ref (gR 0 0 (vR 0))]) (sSeq (sNewO 0 3 4 df_4 D_Scene_init [asV Value.ref (gR 0 1 (vR 0))]) (sSeq (sNewO 0 4 5 df_5 D_Laws_init [asV Value.ref (gR 0 1 (vR 0))]) (sSeq (sNewO 0 5 6 df_6 D_Days_init [asV Value.ref (gR 0 1 (vR 0)), asV Value.ref (gR 0 4 (vR 0))]) (sSeq (sNewO 0 6 7 df_7 D_Plan_init [asV Value.ref (gR 0 1 (vR 0)), asV Value.ref (gR 0 3 (vR 0)), asV Value.ref (gR 0 4 (vR 0))]) (sSeq (sNewO 0 7 8 df_8 D_Givings_init [asV Value.ref (gR 0 1 (vR 0)), asV Value.ref (gR 0 3 (vR 0)), asV Value.ref (gR 0 4 (vR 0))]) (sSeq (sNewO 0 8 9 df_9 D_Sharing_init [asV Value.ref (gR 0 1 (vR 0)), asV Value.ref (gR 0 3 (vR 0))]) (sSeq (sNewO 0 9 10 df_10 D_Told_init [asV Value.ref (gR 0 1 (vR 0)), asV Value.ref (gR 0 3 (vR 0)), asV Value.ref (gR 0 4 (vR 0))]) (sNewO 0 10 11 df_11 D_History_init [])))))))))))
noncomputable def D_X_init : Dn := runS [1] (sSeq F_X_init sRetV)
theorem mf_X_init : Mf y_X_init prog_1_method_1_code 1 none 0 := ⟨tw_147, tw_122, by decide +kernel⟩
set_option maxRecDepth 100000 in
theorem ok_X_init : MOK y_X_init prog_1_method_1_code 1 none 6 110 8532 D_X_init := MOK.init (by decide) (by decide) (by decide) (show SA Y_X_init [(0, 1)] [(0, 1)] 0 189 110 8532 F_X_init from
  (sa_seq (k1 := 0) (n1 := 0) (k2 := 110) (n2 := 8532) (sl1 := [(0, 1)]) (p1 := 4) (sa_super (p1 := 1) (e_aload_n (k0 := 0) d_X_init_0 rfl rfl) ⟨tw_148, tw_oi, tw_oc⟩ (by decide) d_X_init_1 (fun _ _ _ => Or.inr trivial)) (sa_seq (k1 := 5) (n1 := 3208) (k2 := 105) (n2 := 5324) (sl1 := [(0, 1)]) (p1 := 15) (sa_newo (k0 := 0) (p1 := 5) (p2 := 9) (N1 := 5) (mc := 4) (ms := 3203) cf_1 dfs_1 cf_0 (e_aload_n (k0 := 0) d_X_init_4 rfl rfl) tw_151 tw_152 tw_123 d_X_init_5 d_X_init_8 a_nil (k_initN ok_Tape_init mf_Tape_init rfl tw_154 (fun X G => G.2.2.2.2.2.2.2.2.2.2.2.1) d_X_init_9 (by decide) (by decide) (by decide)) (by decide) rfl tw_565 (Or.inr ⟨rfl, rfl, rfl⟩) d_X_init_12) (sa_seq (k1 := 8) (n1 := 877) (k2 := 97) (n2 := 4447) (sl1 := [(0, 1)]) (p1 := 26) (sa_newo (k0 := 1) (p1 := 16) (p2 := 20) (N1 := 11) (mc := 7) (ms := 866) cf_2 dfs_2 cf_0 (e_aload_n (k0 := 0) d_X_init_15 rfl rfl) tw_178 tw_179 tw_124 d_X_init_16 d_X_init_19 a_nil (k_init ok_Text_init mf_Text_init rfl tw_181 tw_180 d_X_init_20 (by decide) (by decide) (by decide)) (by decide) rfl tw_566 (Or.inr ⟨rfl, rfl, rfl⟩) d_X_init_23) (sa_seq (k1 := 11) (n1 := 900) (k2 := 86) (n2 := 3547) (sl1 := [(0, 1)]) (p1 := 41) (sa_newo (k0 := 2) (p1 := 27) (p2 := 35) (N1 := 12) (mc := 10) (ms := 888) cf_3 dfs_3 cf_0 (e_aload_n (k0 := 0) d_X_init_26 rfl rfl) tw_263 tw_264 tw_125 d_X_init_27 d_X_init_30 (a_cons (ι := Value.ref) (k0 := 1) (p1 := 35) (fun _ => rfl) (e_gR (k0 := 0) (p1 := 32) cf_0 (e_aload_n (k0 := 0) d_X_init_31 rfl rfl) (by decide) tw_565 d_X_init_32) a_nil) (k_init ok_Parser_init mf_Parser_init rfl tw_266 tw_265 d_X_init_35 (by decide) (by decide) (by decide)) (by decide) rfl tw_567 (Or.inr ⟨rfl, rfl, rfl⟩) d_X_init_38) (sa_seq (k1 := 4) (n1 := 72) (k2 := 82) (n2 := 3475) (sl1 := [(0, 1)]) (p1 := 56) (sa_newo (k0 := 3) (p1 := 42) (p2 := 50) (N1 := 5) (mc := 3) (ms := 67) cf_4 dfs_4 cf_0 (e_aload_n (k0 := 0) d_X_init_41 rfl rfl) tw_310 tw_311 tw_126 d_X_init_42 d_X_init_45 (a_cons (ι := Value.ref) (k0 := 1) (p1 := 50) (fun _ => rfl) (e_gR (k0 := 1) (p1 := 47) cf_0 (e_aload_n (k0 := 0) d_X_init_46 rfl rfl) (by decide) tw_566 d_X_init_47) a_nil) (k_init ok_Scene_init mf_Scene_init rfl tw_313 tw_312 d_X_init_50 (by decide) (by decide) (by decide)) (by decide) rfl tw_568 (Or.inr ⟨rfl, rfl, rfl⟩) d_X_init_53) (sa_seq (k1 := 3) (n1 := 44) (k2 := 79) (n2 := 3431) (sl1 := [(0, 1)]) (p1 := 71) (sa_newo (k0 := 4) (p1 := 57) (p2 := 65) (N1 := 3) (mc := 2) (ms := 41) cf_5 dfs_5 cf_0 (e_aload_n (k0 := 0) d_X_init_56 rfl rfl) tw_345 tw_346 tw_127 d_X_init_57 d_X_init_60 (a_cons (ι := Value.ref) (k0 := 1) (p1 := 65) (fun _ => rfl) (e_gR (k0 := 1) (p1 := 62) cf_0 (e_aload_n (k0 := 0) d_X_init_61 rfl rfl) (by decide) tw_566 d_X_init_62) a_nil) (k_init ok_Laws_init mf_Laws_init rfl tw_348 tw_347 d_X_init_65 (by decide) (by decide) (by decide)) (by decide) rfl tw_569 (Or.inr ⟨rfl, rfl, rfl⟩) d_X_init_68) (sa_seq (k1 := 5) (n1 := 75) (k2 := 74) (n2 := 3356) (sl1 := [(0, 1)]) (p1 := 90) (sa_newo (k0 := 5) (p1 := 72) (p2 := 84) (N1 := 3) (mc := 4) (ms := 72) cf_6 dfs_6 cf_0 (e_aload_n (k0 := 0) d_X_init_71 rfl rfl) tw_361 tw_362 tw_128 d_X_init_72 d_X_init_75 (a_cons (ι := Value.ref) (k0 := 1) (p1 := 80) (fun _ => rfl) (e_gR (k0 := 1) (p1 := 77) cf_0 (e_aload_n (k0 := 0) d_X_init_76 rfl rfl) (by decide) tw_566 d_X_init_77) (a_cons (ι := Value.ref) (k0 := 1) (p1 := 84) (fun _ => rfl) (e_gR (k0 := 4) (p1 := 81) cf_0 (e_aload_n (k0 := 0) d_X_init_80 rfl rfl) (by decide) tw_569 d_X_init_81) a_nil)) (k_init ok_Days_init mf_Days_init rfl tw_364 tw_363 d_X_init_84 (by decide) (by decide) (by decide)) (by decide) rfl tw_570 (Or.inr ⟨rfl, rfl, rfl⟩) d_X_init_87) (sa_seq (k1 := 7) (n1 := 240) (k2 := 67) (n2 := 3116) (sl1 := [(0, 1)]) (p1 := 113) (sa_newo (k0 := 6) (p1 := 91) (p2 := 107) (N1 := 14) (mc := 6) (ms := 226) cf_7 dfs_7 cf_0 (e_aload_n (k0 := 0) d_X_init_90 rfl rfl) tw_379 tw_380 tw_129 d_X_init_91 d_X_init_94 (a_cons (ι := Value.ref) (k0 := 1) (p1 := 99) (fun _ => rfl) (e_gR (k0 := 1) (p1 := 96) cf_0 (e_aload_n (k0 := 0) d_X_init_95 rfl rfl) (by decide) tw_566 d_X_init_96) (a_cons (ι := Value.ref) (k0 := 1) (p1 := 103) (fun _ => rfl) (e_gR (k0 := 3) (p1 := 100) cf_0 (e_aload_n (k0 := 0) d_X_init_99 rfl rfl) (by decide) tw_568 d_X_init_100) (a_cons (ι := Value.ref) (k0 := 1) (p1 := 107) (fun _ => rfl) (e_gR (k0 := 4) (p1 := 104) cf_0 (e_aload_n (k0 := 0) d_X_init_103 rfl rfl) (by decide) tw_569 d_X_init_104) a_nil))) (k_init ok_Plan_init mf_Plan_init rfl tw_382 tw_381 d_X_init_107 (by decide) (by decide) (by decide)) (by decide) rfl tw_571 (Or.inr ⟨rfl, rfl, rfl⟩) d_X_init_110) (sa_seq (k1 := 7) (n1 := 191) (k2 := 60) (n2 := 2925) (sl1 := [(0, 1)]) (p1 := 136) (sa_newo (k0 := 7) (p1 := 114) (p2 := 130) (N1 := 15) (mc := 6) (ms := 176) cf_8 dfs_8 cf_0 (e_aload_n (k0 := 0) d_X_init_113 rfl rfl) tw_432 tw_433 tw_130 d_X_init_114 d_X_init_117 (a_cons (ι := Value.ref) (k0 := 1) (p1 := 122) (fun _ => rfl) (e_gR (k0 := 1) (p1 := 119) cf_0 (e_aload_n (k0 := 0) d_X_init_118 rfl rfl) (by decide) tw_566 d_X_init_119) (a_cons (ι := Value.ref) (k0 := 1) (p1 := 126) (fun _ => rfl) (e_gR (k0 := 3) (p1 := 123) cf_0 (e_aload_n (k0 := 0) d_X_init_122 rfl rfl) (by decide) tw_568 d_X_init_123) (a_cons (ι := Value.ref) (k0 := 1) (p1 := 130) (fun _ => rfl) (e_gR (k0 := 4) (p1 := 127) cf_0 (e_aload_n (k0 := 0) d_X_init_126 rfl rfl) (by decide) tw_569 d_X_init_127) a_nil))) (k_init ok_Givings_init mf_Givings_init rfl tw_435 tw_434 d_X_init_130 (by decide) (by decide) (by decide)) (by decide) rfl tw_572 (Or.inr ⟨rfl, rfl, rfl⟩) d_X_init_133) (sa_seq (k1 := 9) (n1 := 399) (k2 := 51) (n2 := 2526) (sl1 := [(0, 1)]) (p1 := 155) (sa_newo (k0 := 8) (p1 := 137) (p2 := 149) (N1 := 4) (mc := 8) (ms := 395) cf_9 dfs_9 cf_0 (e_aload_n (k0 := 0) d_X_init_136 rfl rfl) tw_489 tw_490 tw_131 d_X_init_137 d_X_init_140 (a_cons (ι := Value.ref) (k0 := 1) (p1 := 145) (fun _ => rfl) (e_gR (k0 := 1) (p1 := 142) cf_0 (e_aload_n (k0 := 0) d_X_init_141 rfl rfl) (by decide) tw_566 d_X_init_142) (a_cons (ι := Value.ref) (k0 := 1) (p1 := 149) (fun _ => rfl) (e_gR (k0 := 3) (p1 := 146) cf_0 (e_aload_n (k0 := 0) d_X_init_145 rfl rfl) (by decide) tw_568 d_X_init_146) a_nil)) (k_init ok_Sharing_init mf_Sharing_init rfl tw_492 tw_491 d_X_init_149 (by decide) (by decide) (by decide)) (by decide) rfl tw_573 (Or.inr ⟨rfl, rfl, rfl⟩) d_X_init_152) (sa_seq (k1 := 4) (n1 := 67) (k2 := 47) (n2 := 2459) (sl1 := [(0, 1)]) (p1 := 178) (sa_newo (k0 := 9) (p1 := 156) (p2 := 172) (N1 := 7) (mc := 3) (ms := 60) cf_10 dfs_10 cf_0 (e_aload_n (k0 := 0) d_X_init_155 rfl rfl) tw_511 tw_512 tw_132 d_X_init_156 d_X_init_159 (a_cons (ι := Value.ref) (k0 := 1) (p1 := 164) (fun _ => rfl) (e_gR (k0 := 1) (p1 := 161) cf_0 (e_aload_n (k0 := 0) d_X_init_160 rfl rfl) (by decide) tw_566 d_X_init_161) (a_cons (ι := Value.ref) (k0 := 1) (p1 := 168) (fun _ => rfl) (e_gR (k0 := 3) (p1 := 165) cf_0 (e_aload_n (k0 := 0) d_X_init_164 rfl rfl) (by decide) tw_568 d_X_init_165) (a_cons (ι := Value.ref) (k0 := 1) (p1 := 172) (fun _ => rfl) (e_gR (k0 := 4) (p1 := 169) cf_0 (e_aload_n (k0 := 0) d_X_init_168 rfl rfl) (by decide) tw_569 d_X_init_169) a_nil))) (k_init ok_Told_init mf_Told_init rfl tw_514 tw_513 d_X_init_172 (by decide) (by decide) (by decide)) (by decide) rfl tw_574 (Or.inr ⟨rfl, rfl, rfl⟩) d_X_init_175) (sa_newo (k0 := 10) (p1 := 179) (p2 := 183) (N1 := 5) (mc := 46) (ms := 2454) cf_11 dfs_11 cf_0 (e_aload_n (k0 := 0) d_X_init_178 rfl rfl) tw_541 tw_542 tw_133 d_X_init_179 d_X_init_182 a_nil (k_initN ok_History_init mf_History_init rfl tw_544 (fun X G => G.2.2.2.2.2.2.2.2.2.2.2.2.1) d_X_init_183 (by decide) (by decide) (by decide)) (by decide) rfl tw_575 (Or.inr ⟨rfl, rfl, rfl⟩) d_X_init_186))))))))))))) d_X_init_189

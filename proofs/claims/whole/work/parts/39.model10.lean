theorem inL {x y : Int32} (h : ¬ x.toInt64 < 0 ∧ ¬ y.toInt64 < x.toInt64) : ¬ (x < 0 ∨ ¬ x ≤ y) := fun q => q.elim (fun q => h.1 ((w64 x 0).mpr q)) (fun q => h.2 ((w64 y x).mpr (i_nle.mp q)))
theorem outL {x y : Int32} (h : x.toInt64 < 0 ∨ y.toInt64 < x.toInt64) : x < 0 ∨ ¬ x ≤ y := h.imp (fun q => (w64 x 0).mp q) (fun q => i_nle.mpr ((w64 y x).mp q))
set_option maxHeartbeats 4000000 in
set_option maxRecDepth 100000 in
theorem c_X4_comes {w : Wd} {P : PT} {T : TT} {A : AT} {U : Nat → Bool} {K : Nat → PT} {N : NT} {z : Int64} (hS : mS w P T A U K N z) (hz : P.1.2.2.2 = 0 ∨ P.1.2.2.2 = 1) (hh : ∀ k, k < P.1.1 → ∃ a, a ≤ 9 ∧ P.2 1 k = nI a) (hkd : ∀ s, s < P.1.1 → P.2 2 s = 0 ∨ P.2 2 s = 1 ∨ P.2 2 s = 2 ∨ P.2 2 s = 3) (hq : ∀ m, m < P.1.2.1 → ∃ q, q < 1000 ∧ P.2 5 m = nI q) {l x : Int32} {Q : Option Value → Wd → Prop} (hQ : ∀ u, mS u P T A U K N z → FrK w u → Q (some (.int (comesF P l x))) u) : V mX4_comes 0 [some (.ref 1), some (.int l), some (.int x)] [] w Q := by
  have b5 := hS.1.2.2.1
  have b4 := hS.1.2.2.2.1
  refine la_3_0 1 dX4_comes_0 rfl ?_
  refine li_3_1 2 dX4_comes_1 rfl ?_
  refine v_cVI1 5 dX4_comes_2 rfl fvX4_isLetter fiX4_isLetter ml_X4_132 (seX4) rfl ⟨(Nat.le_of_ble_eq_true rfl), (Nat.le_of_ble_eq_true rfl)⟩ (Nat.le_of_ble_eq_true rfl) (Nat.le_of_ble_eq_true rfl) (c_X4_isLetter hS.1 hb0 (fun q2 => ⟨_, rfl, ?_⟩) (fun q2 => ⟨_, rfl, ?_⟩)) rfl
  · obtain ⟨m, hm, rfl⟩ := q2
    obtain ⟨q, hq9, hq5⟩ := hq m hm
    refine v_if_ne 10 8 dX4_comes_5 rfl rfl (fun _ => ?_) (fun h => absurd h (by decide))
    refine li_3_2 11 dX4_comes_10 rfl ?_
    refine v_i2l 12 dX4_comes_11 rfl ?_
    refine v_lconst (v := 0) 13 dX4_comes_12 rfl rfl ?_
    refine v_iconst (v := 1) 14 dX4_comes_13 rfl ki_1 ?_
    refine la_3_0 15 dX4_comes_14 rfl ?_
    refine vgm_stamps hS.1 hb0 rfl 18 dX4_comes_15 rfl ?_
    refine v_ishl 19 dX4_comes_18 rfl ?_
    refine v_iconst (v := 1) 20 dX4_comes_19 rfl ki_1 ?_
    refine v_isub 21 dX4_comes_20 rfl ?_
    refine v_i2l 22 dX4_comes_21 rfl ?_
    refine v_cSI3 25 dX4_comes_22 rfl fvX4_in fsX4_in ml_X4_56 ⟨(Nat.le_of_ble_eq_true rfl), (Nat.le_of_ble_eq_true rfl)⟩ (Nat.le_of_ble_eq_true rfl) (Nat.le_of_ble_eq_true rfl) (c_X4_in (fun q22 => ⟨_, rfl, ?_⟩) (fun q22 => ⟨_, rfl, ?_⟩)) rfl
    · refine v_if_ne 31 28 dX4_comes_25 rfl rfl (fun _ => ?_) (fun h => absurd h (by decide))
      refine la_3_0 32 dX4_comes_31 rfl ?_
      refine vg_X4_16 rfl 35 dX4_comes_32 rfl ?_
      refine v_bipush (v := 24) 37 dX4_comes_35 rfl kb_24 ?_
      refine li_3_1 38 dX4_comes_37 rfl ?_
      refine v_iadd 39 dX4_comes_38 rfl ?_
      refine vmn_7 hS.1 hb0 _ 40 dX4_comes_39 rfl (ixC 24 m) hm ?_
      refine v_if_ne 54 43 dX4_comes_40 rfl rfl (fun h40 => ?_) (fun h40 => ?_)
      · refine v_bipush (v := (-3)) 56 dX4_comes_54 rfl kb_m3 ?_
        refine v_iret dX4_comes_56 rfl ?_
        rw [show comesF P (nI m) x = -3 from by unfold comesF; rw [kk_nI (by omega)]; exact (ifP_neg (fun z => z ⟨m, hm, rfl⟩)).trans ((ifP_neg (inL q22)).trans (ifP_pos (Or.inl h40)))] at hQ
        exact hQ _ hS FrK.rf
      · refine li_3_2 44 dX4_comes_43 rfl ?_
        refine la_3_0 45 dX4_comes_44 rfl ?_
        refine v_cVI0 48 dX4_comes_45 rfl fvX4_freeOnes fiX4_freeOnes ml_X4_172 (seX4) rfl ⟨(Nat.le_of_ble_eq_true rfl), (Nat.le_of_ble_eq_true rfl)⟩ (Nat.le_of_ble_eq_true rfl) (Nat.le_of_ble_eq_true rfl) (c_X4_freeOnes hS.1 ⟨_, rfl, ?_⟩) rfl
        refine v_iconst (v := (-1)) 49 dX4_comes_48 rfl ki_m1 ?_
        refine v_ixor 50 dX4_comes_49 rfl ?_
        refine v_iand 51 dX4_comes_50 rfl ?_
        refine v_if_eq 57 54 dX4_comes_51 rfl rfl (fun h51 => ?_) (fun h51 => ?_)
        · refine la_3_0 58 dX4_comes_57 rfl ?_
          refine li_3_1 59 dX4_comes_58 rfl ?_
          refine li_3_2 60 dX4_comes_59 rfl ?_
          refine v_cVI2 63 dX4_comes_60 rfl fvX4_ends fiX4_ends ml_X4_175 (seX4) rfl ⟨(Nat.le_of_ble_eq_true rfl), (Nat.le_of_ble_eq_true rfl)⟩ (Nat.le_of_ble_eq_true rfl) (Nat.le_of_ble_eq_true rfl) (c_X4_ends hS hz hh hkd hm hq5 hq9 (fun u1 hS1 G1 => ⟨_, rfl, ?_⟩)) rfl
          refine v_iret dX4_comes_63 rfl ?_
          rw [show comesF P (nI m) x = tryF P m x from by unfold comesF; rw [kk_nI (by omega)]; exact (ifP_neg (fun z => z ⟨m, hm, rfl⟩)).trans ((ifP_neg (inL q22)).trans (ifP_neg (fun z => z.elim (fun z => z h40) (fun z => z h51))))] at hQ
          exact hQ _ hS1 G1
        · refine v_bipush (v := (-3)) 56 dX4_comes_54 rfl kb_m3 ?_
          refine v_iret dX4_comes_56 rfl ?_
          rw [show comesF P (nI m) x = -3 from by unfold comesF; rw [kk_nI (by omega)]; exact (ifP_neg (fun z => z ⟨m, hm, rfl⟩)).trans ((ifP_neg (inL q22)).trans (ifP_pos (Or.inr h51)))] at hQ
          exact hQ _ hS FrK.rf
    · refine v_if_ne 31 28 dX4_comes_25 rfl rfl (fun h => absurd rfl h) (fun _ => ?_)
      refine v_bipush (v := (-2)) 30 dX4_comes_28 rfl kb_m2 ?_
      refine v_iret dX4_comes_30 rfl ?_
      rw [show comesF P (nI m) x = -2 from by unfold comesF; rw [kk_nI (by omega)]; exact (ifP_neg (fun z => z ⟨m, hm, rfl⟩)).trans (ifP_pos (outL q22))] at hQ
      exact hQ _ hS FrK.rf
  · refine v_if_ne 10 8 dX4_comes_5 rfl rfl (fun h => absurd rfl h) (fun _ => ?_)
    refine v_iconst (v := (-1)) 9 dX4_comes_8 rfl ki_m1 ?_
    refine v_iret dX4_comes_9 rfl ?_
    rw [show comesF P l x = -1 from ifP_pos q2] at hQ
    exact hQ _ hS FrK.rf
theorem m30L {m : Int32} (h : ¬ m.toInt64 < 1 ∧ ¬ (30 : Int64) < m.toInt64) : ¬ m < 1 ∧ m ≤ 30 := ⟨fun q => h.1 ((w64 m 1).mpr q), i_nlt.mp (fun q => h.2 ((w64 30 m).mpr q))⟩
theorem n30L {m : Int32} (h : m.toInt64 < 1 ∨ (30 : Int64) < m.toInt64) : m < 1 ∨ ¬ m ≤ 30 := h.imp (fun q => (w64 m 1).mp q) (fun q => i_nle.mpr ((w64 30 m).mp q))
theorem mS.sd {w : Wd} {P : PT} {T : TT} {A : AT} {U : Nat → Bool} {K : Nat → PT} {N : NT} {z y : Int64} (h : mS w P T A U K N z) : mS (sJ w 1 y) P T A U K N y := ⟨h.1, h.2.1, h.2.2.1, h.2.2.2.1, h.2.2.2.2.1, h.2.2.2.2.2.1, rfl⟩
theorem wk_v1 {d : Int32} {i q : Nat} (h : i + 1 = q ∧ q % 2 = 1) : (if ¬ d = 0 ∨ (i + 1 = q ∧ q % 2 = 1) then (1 : Int32) else 0) = 1 := if_pos (Or.inr h)
theorem wk_vd {d : Int32} {i q : Nat} (hd : d = 0 ∨ d = 1) (h : ¬ (i + 1 = q ∧ q % 2 = 1)) : (if ¬ d = 0 ∨ (i + 1 = q ∧ q % 2 = 1) then (1 : Int32) else 0) = d := by
  rcases hd with rfl | rfl
  · exact if_neg (fun z => z.elim (fun z => z rfl) h)
  · exact if_pos (Or.inl (by decide))
set_option maxHeartbeats 4000000 in
set_option maxRecDepth 100000 in
theorem c_X4_years {w : Wd} {P : PT} {T : TT} {A : AT} {U : Nat → Bool} {K : Nat → PT} {N : NT} {z : Int64} (hS : mS w P T A U K N z) (hz : P.1.2.2.2 = 0 ∨ P.1.2.2.2 = 1) {m : Int32} {Q : Option Value → Wd → Prop} (hQ : ∀ u, mS u P T A U K N (yearsF P z m).2 → FrK w u → Q (some (.int (yearsF P z m).1)) u) : V mX4_years 0 [some (.ref 1), some (.int m), none, none, none, none] [] w Q := by
  have b5 := hS.1.2.2.1
  have b4 := hS.1.2.2.2.1
  have inner : ∀ (k i q : Nat) (s : Int32) (y : Int64) (R : PT), q < 10 → (∀ u, mS u P T A U K N y → isM u 1 (wkI R P.1.2.2.2 q q) → FrK w u → V mX4_years 110 [some (.ref 1), some (.int (nI k)), some (.int s), some (.int (nI i)), none, none] [] u Q) → ∀ j, j ≤ q → ∀ u, mS u P T A U K N y → isM u 1 (wkI R P.1.2.2.2 q j) → FrK w u → V mX4_years 62 [some (.ref 1), some (.int (nI k)), some (.int s), some (.int (nI i)), some (.int (nI q)), some (.int (nI (q - j)))] [] u Q := by
    intro k i q s y R hq hend
    refine up (P := fun j => ∀ u, mS u P T A U K N y → isM u 1 (wkI R P.1.2.2.2 q j) → FrK w u → V mX4_years 62 [some (.ref 1), some (.int (nI k)), some (.int s), some (.int (nI i)), some (.int (nI q)), some (.int (nI (q - j)))] [] u Q) (fun j hj ih => ?_)
    intro u hSu hM hG
    refine li_6_5 64 dX4_years_62 rfl ?_
    refine v_if_le 110 67 dX4_years_64 rfl rfl (fun h64 => ?_) (fun h64 => ?_)
    · have hj2 : q - j = 0 := by
        rcases Nat.eq_zero_or_pos (q - j) with kz | kz
        · exact kz
        · exact absurd h64 (nI_nle kz (by omega))
      have hj3 : j = q := by omega
      subst hj3
      refine fg_6_4 ?_
      refine fg_6_5 ?_
      exact hend u hSu hM hG
    · have hlt : j < q := by
        rcases Nat.lt_or_ge j q with kz | kz
        · exact kz
        · rw [show q - j = 0 by omega] at h64; exact absurd (by decide) h64
      refine la_6_0 68 dX4_years_67 rfl ?_
      refine vg_X4_16 rfl 71 dX4_years_68 rfl ?_
      refine v_bipush (v := 58) 73 dX4_years_71 rfl kb_58 ?_
      refine li_6_5 75 dX4_years_73 rfl ?_
      refine v_iconst (v := 1) 76 dX4_years_75 rfl ki_1 ?_
      refine v_icmp_ne 91 79 dX4_years_76 rfl rfl (fun h76 => ?_) (fun h76 => ?_)
      · have g : ¬ (j + 1 = q ∧ q % 2 = 1) := fun kz => h76 (by rw [show q - j = 1 by omega]; rfl)
        refine la_6_0 92 dX4_years_91 rfl ?_
        refine vg_X4_16 rfl 95 dX4_years_92 rfl ?_
        refine v_bipush (v := 28) 97 dX4_years_95 rfl kb_28 ?_
        refine vmr_damp (l := 0) hSu.1 hb0 98 dX4_years_97 rfl rfl ?_
        refine vmw_damp hM hb1 99 dX4_years_98 rfl rfl (fun u1 hM1 hF1 => ?_)
        refine la_6_0 100 dX4_years_99 rfl ?_
        refine v_iconst (v := 1) 101 dX4_years_100 rfl ki_1 ?_
        refine v_cVN1 104 dX4_years_101 rfl fvX4_passOn fiX4_passOn ml_X4_144 (seX4) rfl ⟨(Nat.le_of_ble_eq_true rfl), (Nat.le_of_ble_eq_true rfl)⟩ (Nat.le_of_ble_eq_true rfl) (Nat.le_of_ble_eq_true rfl) (c_X4_passOn (l := 1) hM1 hb1 (by first | exact hz | exact Or.inr rfl) (fun u2 hM2 hF2 => ⟨rfl, ?_⟩)) rfl
        refine ic_6_5 rfl 107 dX4_years_104 rfl ki_m1 rfl ?_
        rw [show nI (q - j) + -1 = nI (q - (j + 1)) from by rw [show q - j = (q - (j + 1)) + 1 by omega]; exact pk_m1 _]
        refine v_goto 62 dX4_years_107 rfl ?_
        exact ih hlt _ (hSu.fr1 (hF1.tr hF2)) (by rw [wkI, wk_vd hz g]; exact hM2) (hG.tr (hF1.tr hF2).K)
      · have g1 : q - j = 1 := nI_inj (b := 1) (by omega) (by omega) h76
        refine li_6_4 81 dX4_years_79 rfl ?_
        refine v_iconst (v := 2) 82 dX4_years_81 rfl ki_2 ?_
        refine v_irem 83 dX4_years_82 rfl (by decide) ?_
        rw [rem2 (show q < 1000 by omega)]
        refine v_iconst (v := 1) 84 dX4_years_83 rfl ki_1 ?_
        refine v_icmp_ne 91 87 dX4_years_84 rfl rfl (fun h84 => ?_) (fun h84 => ?_)
        · have g : ¬ (j + 1 = q ∧ q % 2 = 1) := fun kz => h84 (by rw [kz.2]; rfl)
          refine la_6_0 92 dX4_years_91 rfl ?_
          refine vg_X4_16 rfl 95 dX4_years_92 rfl ?_
          refine v_bipush (v := 28) 97 dX4_years_95 rfl kb_28 ?_
          refine vmr_damp (l := 0) hSu.1 hb0 98 dX4_years_97 rfl rfl ?_
          refine vmw_damp hM hb1 99 dX4_years_98 rfl rfl (fun u1 hM1 hF1 => ?_)
          refine la_6_0 100 dX4_years_99 rfl ?_
          refine v_iconst (v := 1) 101 dX4_years_100 rfl ki_1 ?_
          refine v_cVN1 104 dX4_years_101 rfl fvX4_passOn fiX4_passOn ml_X4_144 (seX4) rfl ⟨(Nat.le_of_ble_eq_true rfl), (Nat.le_of_ble_eq_true rfl)⟩ (Nat.le_of_ble_eq_true rfl) (Nat.le_of_ble_eq_true rfl) (c_X4_passOn (l := 1) hM1 hb1 (by first | exact hz | exact Or.inr rfl) (fun u2 hM2 hF2 => ⟨rfl, ?_⟩)) rfl
          refine ic_6_5 rfl 107 dX4_years_104 rfl ki_m1 rfl ?_
          rw [show nI (q - j) + -1 = nI (q - (j + 1)) from by rw [show q - j = (q - (j + 1)) + 1 by omega]; exact pk_m1 _]
          refine v_goto 62 dX4_years_107 rfl ?_
          exact ih hlt _ (hSu.fr1 (hF1.tr hF2)) (by rw [wkI, wk_vd hz g]; exact hM2) (hG.tr (hF1.tr hF2).K)
        · have g2 : q % 2 = 1 := nI_inj (b := 1) (by omega) (by omega) h84
          refine v_iconst (v := 1) 88 dX4_years_87 rfl ki_1 ?_
          refine v_goto 98 dX4_years_88 rfl ?_
          refine vmw_damp hM hb1 99 dX4_years_98 rfl rfl (fun u1 hM1 hF1 => ?_)
          refine la_6_0 100 dX4_years_99 rfl ?_
          refine v_iconst (v := 1) 101 dX4_years_100 rfl ki_1 ?_
          refine v_cVN1 104 dX4_years_101 rfl fvX4_passOn fiX4_passOn ml_X4_144 (seX4) rfl ⟨(Nat.le_of_ble_eq_true rfl), (Nat.le_of_ble_eq_true rfl)⟩ (Nat.le_of_ble_eq_true rfl) (Nat.le_of_ble_eq_true rfl) (c_X4_passOn (l := 1) hM1 hb1 (by first | exact hz | exact Or.inr rfl) (fun u2 hM2 hF2 => ⟨rfl, ?_⟩)) rfl
          refine ic_6_5 rfl 107 dX4_years_104 rfl ki_m1 rfl ?_
          rw [show nI (q - j) + -1 = nI (q - (j + 1)) from by rw [show q - j = (q - (j + 1)) + 1 by omega]; exact pk_m1 _]
          refine v_goto 62 dX4_years_107 rfl ?_
          exact ih hlt _ (hSu.fr1 (hF1.tr hF2)) (by rw [wkI, wk_v1 ⟨by omega, g2⟩]; exact hM2) (hG.tr (hF1.tr hF2).K)
  have key : ∀ k, k ≤ 30 → (∀ u, mS u P T A U K N (yrS P z k).2.1 → FrK w u → Q (some (.int (yrS P z k).2.2)) u) → ∀ i, i ≤ k → ∀ u, mS u P T A U K N (yrS P z i).2.1 → isM u 1 (yrS P z i).1 → FrK w u → V mX4_years 23 [some (.ref 1), some (.int (nI k)), some (.int (yrS P z i).2.2), some (.int (nI i)), none, none] [] u Q := by
    intro k hk hQ
    refine up (P := fun i => ∀ u, mS u P T A U K N (yrS P z i).2.1 → isM u 1 (yrS P z i).1 → FrK w u → V mX4_years 23 [some (.ref 1), some (.int (nI k)), some (.int (yrS P z i).2.2), some (.int (nI i)), none, none] [] u Q) (fun i hi ih => ?_)
    intro u hSu hM hG
    refine li_6_3 24 dX4_years_23 rfl ?_
    refine li_6_1 25 dX4_years_24 rfl ?_
    refine v_icmp_ge 127 28 dX4_years_25 rfl rfl (fun h25 => ?_) (fun h25 => ?_)
    · obtain rfl := ge_eq h25 hi (by omega)
      refine li_6_2 128 dX4_years_127 rfl ?_
      refine v_iret dX4_years_128 rfl ?_
      exact hQ _ hSu hG
    · have hlt := ge_lt h25 (by omega) (by omega)
      refine la_6_0 29 dX4_years_28 rfl ?_
      refine la_6_0 30 dX4_years_29 rfl ?_
      refine vg_X4_214 rfl 33 dX4_years_30 rfl ?_
      rw [hSu.2.2.2.2.2.2]
      refine v_ldc2 36 dX4_years_33 rfl kl_X4_220 ?_
      refine v_lmul 37 dX4_years_36 rfl ?_
      refine v_ldc2 40 dX4_years_37 rfl kl_X4_222 ?_
      refine v_ladd 41 dX4_years_40 rfl ?_
      refine vs_X4_214 rfl 44 dX4_years_41 rfl ?_
      have hS2 := hSu.sd (y := nxt (yrS P z i).2.1)
      obtain ⟨q, hq, eq⟩ := yq_lt (nxt (yrS P z i).2.1)
      change V mX4_years 44 _ [] (sJ u 1 (nxt (yrS P z i).2.1)) Q
      have hM2 : isM (sJ u 1 (nxt (yrS P z i).2.1)) 1 (yrS P z i).1 := hM
      refine la_6_0 45 dX4_years_44 rfl ?_
      refine vg_X4_214 rfl 48 dX4_years_45 rfl ?_
      refine v_bipush (v := 33) 50 dX4_years_48 rfl kb_33 ?_
      refine v_lushr 51 dX4_years_50 rfl ?_
      refine v_ldc2 54 dX4_years_51 rfl kl_X4_178 ?_
      refine v_lrem 55 dX4_years_54 rfl (by decide) ?_
      refine v_l2i 56 dX4_years_55 rfl ?_
      change V mX4_years 56 _ [.int (yq (nxt (yrS P z i).2.1))] _ Q
      rw [eq]
      refine si_6_4 rfl 58 dX4_years_56 rfl rfl ?_
      refine li_6_4 60 dX4_years_58 rfl ?_
      refine si_6_5 rfl 62 dX4_years_60 rfl rfl ?_
      refine inner k i q (yrS P z i).2.2 (nxt (yrS P z i).2.1) (yrS P z i).1 hq (fun u2 hSu2 hM3 hG2 => ?_) 0 (Nat.zero_le _) _ hS2 hM2 (hG.tr FrK.oJ)
      refine li_6_2 111 dX4_years_110 rfl ?_
      refine la_6_0 112 dX4_years_111 rfl ?_
      refine v_iconst (v := 1) 113 dX4_years_112 rfl ki_1 ?_
      refine v_cVI1 116 dX4_years_113 rfl fvX4_living fiX4_living ml_X4_115 (seX4) rfl ⟨(Nat.le_of_ble_eq_true rfl), (Nat.le_of_ble_eq_true rfl)⟩ (Nat.le_of_ble_eq_true rfl) (Nat.le_of_ble_eq_true rfl) (c_X4_living (l := 1) hM3 hb1 ⟨_, rfl, ?_⟩) rfl
      refine v_cSI1 119 dX4_years_116 rfl fvX4_ones fsX4_ones ml_X4_147 ⟨(Nat.le_of_ble_eq_true rfl), (Nat.le_of_ble_eq_true rfl)⟩ (Nat.le_of_ble_eq_true rfl) (Nat.le_of_ble_eq_true rfl) (c_X4_ones ⟨_, rfl, ?_⟩) rfl
      refine v_iadd 120 dX4_years_119 rfl ?_
      refine si_6_2 rfl 121 dX4_years_120 rfl rfl ?_
      refine icn_6_3 rfl 124 dX4_years_121 rfl rfl ?_
      refine v_goto 23 dX4_years_124 rfl ?_
      have e : kk (yq (nxt (yrS P z i).2.1)) = q := by rw [eq]; exact kk_nI (by omega)
      have g := ih hlt u2 (by show mS u2 P T A U K N (nxt (yrS P z i).2.1); exact hSu2) (by show isM u2 1 (wkI _ _ _ _); rw [e]; exact hM3) hG2
      simp only [yrS, e] at g
      rw [show onI (aliveP (wkI (yrS P z i).1 P.1.2.2.2 q q)) 5 = bcF (aliveP (wkI (yrS P z i).1 P.1.2.2.2 q q)) from ones_or _ hM3.2.2.1]
      exact g
  refine li_6_1 1 dX4_years_0 rfl ?_
  refine v_i2l 2 dX4_years_1 rfl ?_
  refine v_lconst (v := 1) 3 dX4_years_2 rfl rfl ?_
  refine v_ldc2 6 dX4_years_3 rfl kl_X4_218 ?_
  refine v_cSI3 9 dX4_years_6 rfl fvX4_in fsX4_in ml_X4_56 ⟨(Nat.le_of_ble_eq_true rfl), (Nat.le_of_ble_eq_true rfl)⟩ (Nat.le_of_ble_eq_true rfl) (Nat.le_of_ble_eq_true rfl) (c_X4_in (fun q6 => ⟨_, rfl, ?_⟩) (fun q6 => ⟨_, rfl, ?_⟩)) rfl
  · obtain ⟨k, hk, rfl⟩ := m30 (m30L q6).1 (m30L q6).2
    refine v_if_ne 15 12 dX4_years_9 rfl rfl (fun _ => ?_) (fun h => absurd h (by decide))
    refine la_6_0 16 dX4_years_15 rfl ?_
    refine v_cVN0 19 dX4_years_16 rfl fvX4_layTrial fiX4_layTrial ml_X4_169 (seX4) rfl ⟨(Nat.le_of_ble_eq_true rfl), (Nat.le_of_ble_eq_true rfl)⟩ (Nat.le_of_ble_eq_true rfl) (Nat.le_of_ble_eq_true rfl) (c_X4_layTrial hS.1 (fun u1 hM1 hF1 => ⟨rfl, ?_⟩)) rfl
    refine v_iconst (v := 0) 20 dX4_years_19 rfl ki_0 ?_
    refine si_6_2 rfl 21 dX4_years_20 rfl rfl ?_
    refine v_iconst (v := 0) 22 dX4_years_21 rfl ki_0 ?_
    refine si_6_3 rfl 23 dX4_years_22 rfl rfl ?_
    have e : yearsF P z (nI k) = ((yrS P z k).2.2, (yrS P z k).2.1) := by unfold yearsF; rw [kk_nI (by omega)]; exact ifP_neg (fun kz => kz.elim (m30L q6).1 (fun kz => kz (m30L q6).2))
    rw [e] at hQ
    exact key k hk hQ 0 (Nat.zero_le _) _ (hS.fr1 hF1) hM1 hF1.K
  · refine v_if_ne 15 12 dX4_years_9 rfl rfl (fun h => absurd rfl h) (fun _ => ?_)
    refine v_bipush (v := (-2)) 14 dX4_years_12 rfl kb_m2 ?_
    refine v_iret dX4_years_14 rfl ?_
    rw [show yearsF P z m = (-2, z) from ifP_pos (n30L q6)] at hQ
    exact hQ _ hS FrK.rf
set_option maxHeartbeats 4000000 in
set_option maxRecDepth 100000 in
theorem c_try0 {w : Wd} {P : PT} (hM : isM w 1 P) (hz : P.1.2.2.2 = 0 ∨ P.1.2.2.2 = 1) (hh : ∀ k, k < P.1.1 → ∃ a, a ≤ 9 ∧ P.2 1 k = nI a) (hkd : ∀ s, s < P.1.1 → P.2 2 s = 0 ∨ P.2 2 s = 1 ∨ P.2 2 s = 2 ∨ P.2 2 s = 3) {a c : Nat} (ha : a < 10) (hc : c < 10) {Q : Option Value → Wd → Prop} (hT : ∀ R u, actR P 0 a c R → isM u 1 R → FrM 1 w u → Q (some (.int 1)) u) (hF : (¬ ∃ R, actR P 0 a c R) → Q (some (.int 0)) w) : V mX4_tryThing 0 [some (.ref 1), some (.int (nI 0)), some (.int (nI a)), some (.int (nI c)), none] [] w Q := by
  have b5 := hM.2.2.1
  have b4 := hM.2.2.2.1
  refine li_5_1 1 dX4_tryThing_0 rfl ?_
  refine v_if_ne 20 4 dX4_tryThing_1 rfl rfl (fun h1 => ?_) (fun h1 => ?_)
  · exact absurd rfl h1
  · refine li_5_2 5 dX4_tryThing_4 rfl ?_
    refine v_if_ne 16 8 dX4_tryThing_5 rfl rfl (fun h5 => ?_) (fun h5 => ?_)
    · have ga : ¬ a = 0 := fun kz => h5 (by rw [kz]; rfl)
      refine v_iconst (v := 0) 17 dX4_tryThing_16 rfl ki_0 ?_
      refine v_goto 81 dX4_tryThing_17 rfl ?_
      refine si_5_4 rfl 83 dX4_tryThing_81 rfl rfl ?_
      refine li_5_4 85 dX4_tryThing_83 rfl ?_
      refine v_if_eq 100 88 dX4_tryThing_85 rfl rfl (fun _ => ?_) (fun h => absurd rfl h)
      refine li_5_4 102 dX4_tryThing_100 rfl ?_
      refine v_if_eq 120 105 dX4_tryThing_102 rfl rfl (fun _ => ?_) (fun h => absurd rfl h)
      refine li_5_4 122 dX4_tryThing_120 rfl ?_
      refine v_if_eq 143 125 dX4_tryThing_122 rfl rfl (fun _ => ?_) (fun h => absurd rfl h)
      refine li_5_4 145 dX4_tryThing_143 rfl ?_
      refine v_if_eq 155 148 dX4_tryThing_145 rfl rfl (fun _ => ?_) (fun h => absurd rfl h)
      refine li_5_4 157 dX4_tryThing_155 rfl ?_
      refine v_zret dX4_tryThing_157 rfl (Or.inl rfl) ?_
      exact hF (by rintro ⟨R, kz⟩; rcases kz with ⟨kz, kz2, kz3, -⟩ | ⟨kz, kz2, -⟩ | ⟨kz, kz2, kz3, -⟩ | ⟨kz, kz2, -⟩ <;> first | omega)
    · have ga : a = 0 := nI_inj (b := 0) (by omega) (by omega) h5
      refine li_5_3 9 dX4_tryThing_8 rfl ?_
      refine v_if_ne 16 12 dX4_tryThing_9 rfl rfl (fun h9 => ?_) (fun h9 => ?_)
      · have gc : ¬ c = 0 := fun kz => h9 (by rw [kz]; rfl)
        refine v_iconst (v := 0) 17 dX4_tryThing_16 rfl ki_0 ?_
        refine v_goto 81 dX4_tryThing_17 rfl ?_
        refine si_5_4 rfl 83 dX4_tryThing_81 rfl rfl ?_
        refine li_5_4 85 dX4_tryThing_83 rfl ?_
        refine v_if_eq 100 88 dX4_tryThing_85 rfl rfl (fun _ => ?_) (fun h => absurd rfl h)
        refine li_5_4 102 dX4_tryThing_100 rfl ?_
        refine v_if_eq 120 105 dX4_tryThing_102 rfl rfl (fun _ => ?_) (fun h => absurd rfl h)
        refine li_5_4 122 dX4_tryThing_120 rfl ?_
        refine v_if_eq 143 125 dX4_tryThing_122 rfl rfl (fun _ => ?_) (fun h => absurd rfl h)
        refine li_5_4 145 dX4_tryThing_143 rfl ?_
        refine v_if_eq 155 148 dX4_tryThing_145 rfl rfl (fun _ => ?_) (fun h => absurd rfl h)
        refine li_5_4 157 dX4_tryThing_155 rfl ?_
        refine v_zret dX4_tryThing_157 rfl (Or.inl rfl) ?_
        exact hF (by rintro ⟨R, kz⟩; rcases kz with ⟨kz, kz2, kz3, -⟩ | ⟨kz, kz2, -⟩ | ⟨kz, kz2, kz3, -⟩ | ⟨kz, kz2, -⟩ <;> first | omega)
      · have gc : c = 0 := nI_inj (b := 0) (by omega) (by omega) h9
        refine v_iconst (v := 1) 13 dX4_tryThing_12 rfl ki_1 ?_
        refine v_goto 81 dX4_tryThing_13 rfl ?_
        refine si_5_4 rfl 83 dX4_tryThing_81 rfl rfl ?_
        refine li_5_4 85 dX4_tryThing_83 rfl ?_
        refine v_if_eq 100 88 dX4_tryThing_85 rfl rfl (fun h => absurd h (by decide)) (fun _ => ?_)
        refine li_5_1 89 dX4_tryThing_88 rfl ?_
        refine v_if_ne 100 92 dX4_tryThing_89 rfl rfl (fun h89 => ?_) (fun h89 => ?_)
        · exact absurd rfl h89
        · refine la_5_0 93 dX4_tryThing_92 rfl ?_
          refine v_iconst (v := 1) 94 dX4_tryThing_93 rfl ki_1 ?_
          refine v_cVN1 97 dX4_tryThing_94 rfl fvX4_passOn fiX4_passOn ml_X4_144 (seX4) rfl ⟨(Nat.le_of_ble_eq_true rfl), (Nat.le_of_ble_eq_true rfl)⟩ (Nat.le_of_ble_eq_true rfl) (Nat.le_of_ble_eq_true rfl) (c_X4_passOn (l := 1) hM hb1 hz (fun u1 hM1 hF1 => ⟨rfl, ?_⟩)) rfl
          refine v_goto 155 dX4_tryThing_97 rfl ?_
          refine li_5_4 157 dX4_tryThing_155 rfl ?_
          refine v_zret dX4_tryThing_157 rfl (Or.inr rfl) ?_
          exact hT _ _ (Or.inl ⟨rfl, ga, gc, rfl⟩) hM1 hF1
set_option maxHeartbeats 4000000 in
set_option maxRecDepth 100000 in
theorem c_try1 {w : Wd} {P : PT} (hM : isM w 1 P) (hz : P.1.2.2.2 = 0 ∨ P.1.2.2.2 = 1) (hh : ∀ k, k < P.1.1 → ∃ a, a ≤ 9 ∧ P.2 1 k = nI a) (hkd : ∀ s, s < P.1.1 → P.2 2 s = 0 ∨ P.2 2 s = 1 ∨ P.2 2 s = 2 ∨ P.2 2 s = 3) {a c : Nat} (ha : a < 10) (hc : c < 10) {Q : Option Value → Wd → Prop} (hT : ∀ R u, actR P 1 a c R → isM u 1 R → FrM 1 w u → Q (some (.int 1)) u) (hF : (¬ ∃ R, actR P 1 a c R) → Q (some (.int 0)) w) : V mX4_tryThing 0 [some (.ref 1), some (.int (nI 1)), some (.int (nI a)), some (.int (nI c)), none] [] w Q := by
  have b5 := hM.2.2.1
  have b4 := hM.2.2.2.1
  refine li_5_1 1 dX4_tryThing_0 rfl ?_
  refine v_if_ne 20 4 dX4_tryThing_1 rfl rfl (fun h1 => ?_) (fun h1 => ?_)
  · refine li_5_1 21 dX4_tryThing_20 rfl ?_
    refine v_iconst (v := 1) 22 dX4_tryThing_21 rfl ki_1 ?_
    refine v_icmp_ne 35 25 dX4_tryThing_22 rfl rfl (fun h22 => ?_) (fun h22 => ?_)
    · exact absurd rfl h22
    · refine la_5_0 26 dX4_tryThing_25 rfl ?_
      refine v_iconst (v := 1) 27 dX4_tryThing_26 rfl ki_1 ?_
      refine li_5_2 28 dX4_tryThing_27 rfl ?_
      refine li_5_3 29 dX4_tryThing_28 rfl ?_
      refine v_cVI3 32 dX4_tryThing_29 rfl fvX4_canStick fiX4_canStick ml_X4_153 (seX4) rfl ⟨(Nat.le_of_ble_eq_true rfl), (Nat.le_of_ble_eq_true rfl)⟩ (Nat.le_of_ble_eq_true rfl) (Nat.le_of_ble_eq_true rfl) (c_X4_canStick (l := 1) hM hb1 (fun q29 => ⟨_, rfl, ?_⟩) (fun q29 => ⟨_, rfl, ?_⟩)) rfl
      · have hkm := stickQ_b b5 b4 ha hc q29
        refine v_goto 81 dX4_tryThing_32 rfl ?_
        refine si_5_4 rfl 83 dX4_tryThing_81 rfl rfl ?_
        refine li_5_4 85 dX4_tryThing_83 rfl ?_
        refine v_if_eq 100 88 dX4_tryThing_85 rfl rfl (fun h => absurd h (by decide)) (fun _ => ?_)
        refine li_5_1 89 dX4_tryThing_88 rfl ?_
        refine v_if_ne 100 92 dX4_tryThing_89 rfl rfl (fun h89 => ?_) (fun h89 => ?_)
        · refine li_5_4 102 dX4_tryThing_100 rfl ?_
          refine v_if_eq 120 105 dX4_tryThing_102 rfl rfl (fun h => absurd h (by decide)) (fun _ => ?_)
          refine li_5_1 106 dX4_tryThing_105 rfl ?_
          refine v_iconst (v := 1) 107 dX4_tryThing_106 rfl ki_1 ?_
          refine v_icmp_ne 120 110 dX4_tryThing_107 rfl rfl (fun h107 => ?_) (fun h107 => ?_)
          · exact absurd rfl h107
          · refine la_5_0 111 dX4_tryThing_110 rfl ?_
            refine v_iconst (v := 1) 112 dX4_tryThing_111 rfl ki_1 ?_
            refine li_5_2 113 dX4_tryThing_112 rfl ?_
            refine li_5_3 114 dX4_tryThing_113 rfl ?_
            refine v_cVN3 117 dX4_tryThing_114 rfl fvX4_stickOn fiX4_stickOn ml_X4_157 (seX4) rfl ⟨(Nat.le_of_ble_eq_true rfl), (Nat.le_of_ble_eq_true rfl)⟩ (Nat.le_of_ble_eq_true rfl) (Nat.le_of_ble_eq_true rfl) (c_X4_stickOn (l := 1) hM hb1 hkm.1 (hh a hkm.1) (fun u1 hM1 hF1 => ⟨rfl, ?_⟩)) rfl
            refine v_goto 155 dX4_tryThing_117 rfl ?_
            refine li_5_4 157 dX4_tryThing_155 rfl ?_
            refine v_zret dX4_tryThing_157 rfl (Or.inr rfl) ?_
            exact hT _ _ (Or.inr (Or.inl ⟨rfl, q29, rfl⟩)) hM1 hF1
        · exact absurd h89 (by decide)
      · refine v_goto 81 dX4_tryThing_32 rfl ?_
        refine si_5_4 rfl 83 dX4_tryThing_81 rfl rfl ?_
        refine li_5_4 85 dX4_tryThing_83 rfl ?_
        refine v_if_eq 100 88 dX4_tryThing_85 rfl rfl (fun _ => ?_) (fun h => absurd rfl h)
        refine li_5_4 102 dX4_tryThing_100 rfl ?_
        refine v_if_eq 120 105 dX4_tryThing_102 rfl rfl (fun _ => ?_) (fun h => absurd rfl h)
        refine li_5_4 122 dX4_tryThing_120 rfl ?_
        refine v_if_eq 143 125 dX4_tryThing_122 rfl rfl (fun _ => ?_) (fun h => absurd rfl h)
        refine li_5_4 145 dX4_tryThing_143 rfl ?_
        refine v_if_eq 155 148 dX4_tryThing_145 rfl rfl (fun _ => ?_) (fun h => absurd rfl h)
        refine li_5_4 157 dX4_tryThing_155 rfl ?_
        refine v_zret dX4_tryThing_157 rfl (Or.inl rfl) ?_
        exact hF (by rintro ⟨R, kz⟩; rcases kz with ⟨kz, kz2, kz3, -⟩ | ⟨kz, kz2, -⟩ | ⟨kz, kz2, kz3, -⟩ | ⟨kz, kz2, -⟩ <;> first | omega | exact q29 kz2)
  · exact absurd h1 (by decide)
set_option maxHeartbeats 4000000 in
set_option maxRecDepth 100000 in
theorem c_try2 {w : Wd} {P : PT} (hM : isM w 1 P) (hz : P.1.2.2.2 = 0 ∨ P.1.2.2.2 = 1) (hh : ∀ k, k < P.1.1 → ∃ a, a ≤ 9 ∧ P.2 1 k = nI a) (hkd : ∀ s, s < P.1.1 → P.2 2 s = 0 ∨ P.2 2 s = 1 ∨ P.2 2 s = 2 ∨ P.2 2 s = 3) {a c : Nat} (ha : a < 10) (hc : c < 10) {Q : Option Value → Wd → Prop} (hT : ∀ R u, actR P 2 a c R → isM u 1 R → FrM 1 w u → Q (some (.int 1)) u) (hF : (¬ ∃ R, actR P 2 a c R) → Q (some (.int 0)) w) : V mX4_tryThing 0 [some (.ref 1), some (.int (nI 2)), some (.int (nI a)), some (.int (nI c)), none] [] w Q := by
  have b5 := hM.2.2.1
  have b4 := hM.2.2.2.1
  refine li_5_1 1 dX4_tryThing_0 rfl ?_
  refine v_if_ne 20 4 dX4_tryThing_1 rfl rfl (fun h1 => ?_) (fun h1 => ?_)
  · refine li_5_1 21 dX4_tryThing_20 rfl ?_
    refine v_iconst (v := 1) 22 dX4_tryThing_21 rfl ki_1 ?_
    refine v_icmp_ne 35 25 dX4_tryThing_22 rfl rfl (fun h22 => ?_) (fun h22 => ?_)
    · refine li_5_1 36 dX4_tryThing_35 rfl ?_
      refine v_iconst (v := 2) 37 dX4_tryThing_36 rfl ki_2 ?_
      refine v_icmp_ne 61 40 dX4_tryThing_37 rfl rfl (fun h37 => ?_) (fun h37 => ?_)
      · exact absurd rfl h37
      · refine li_5_2 41 dX4_tryThing_40 rfl ?_
        refine v_if_ne 57 44 dX4_tryThing_41 rfl rfl (fun h41 => ?_) (fun h41 => ?_)
        · have ga : ¬ a = 0 := fun kz => h41 (by rw [kz]; rfl)
          refine v_iconst (v := 0) 58 dX4_tryThing_57 rfl ki_0 ?_
          refine v_goto 81 dX4_tryThing_58 rfl ?_
          refine si_5_4 rfl 83 dX4_tryThing_81 rfl rfl ?_
          refine li_5_4 85 dX4_tryThing_83 rfl ?_
          refine v_if_eq 100 88 dX4_tryThing_85 rfl rfl (fun _ => ?_) (fun h => absurd rfl h)
          refine li_5_4 102 dX4_tryThing_100 rfl ?_
          refine v_if_eq 120 105 dX4_tryThing_102 rfl rfl (fun _ => ?_) (fun h => absurd rfl h)
          refine li_5_4 122 dX4_tryThing_120 rfl ?_
          refine v_if_eq 143 125 dX4_tryThing_122 rfl rfl (fun _ => ?_) (fun h => absurd rfl h)
          refine li_5_4 145 dX4_tryThing_143 rfl ?_
          refine v_if_eq 155 148 dX4_tryThing_145 rfl rfl (fun _ => ?_) (fun h => absurd rfl h)
          refine li_5_4 157 dX4_tryThing_155 rfl ?_
          refine v_zret dX4_tryThing_157 rfl (Or.inl rfl) ?_
          exact hF (by rintro ⟨R, kz⟩; rcases kz with ⟨kz, kz2, kz3, -⟩ | ⟨kz, kz2, -⟩ | ⟨kz, kz2, kz3, -⟩ | ⟨kz, kz2, -⟩ <;> first | omega)
        · have ga : a = 0 := nI_inj (b := 0) (by omega) (by omega) h41
          refine la_5_0 45 dX4_tryThing_44 rfl ?_
          refine v_iconst (v := 1) 46 dX4_tryThing_45 rfl ki_1 ?_
          refine li_5_3 47 dX4_tryThing_46 rfl ?_
          refine v_cVI2 50 dX4_tryThing_47 rfl fvX4_canSend fiX4_canSend ml_X4_160 (seX4) rfl ⟨(Nat.le_of_ble_eq_true rfl), (Nat.le_of_ble_eq_true rfl)⟩ (Nat.le_of_ble_eq_true rfl) (Nat.le_of_ble_eq_true rfl) (c_X4_canSend (l := 1) hM hb1 hkd (fun q47 => ⟨_, rfl, ?_⟩) (fun q47 => ⟨_, rfl, ?_⟩)) rfl
          · have hkm := sendQ_b b4 hc q47
            refine v_if_eq 57 53 dX4_tryThing_50 rfl rfl (fun h => absurd h (by decide)) (fun _ => ?_)
            refine v_iconst (v := 1) 54 dX4_tryThing_53 rfl ki_1 ?_
            refine v_goto 81 dX4_tryThing_54 rfl ?_
            refine si_5_4 rfl 83 dX4_tryThing_81 rfl rfl ?_
            refine li_5_4 85 dX4_tryThing_83 rfl ?_
            refine v_if_eq 100 88 dX4_tryThing_85 rfl rfl (fun h => absurd h (by decide)) (fun _ => ?_)
            refine li_5_1 89 dX4_tryThing_88 rfl ?_
            refine v_if_ne 100 92 dX4_tryThing_89 rfl rfl (fun h89 => ?_) (fun h89 => ?_)
            · refine li_5_4 102 dX4_tryThing_100 rfl ?_
              refine v_if_eq 120 105 dX4_tryThing_102 rfl rfl (fun h => absurd h (by decide)) (fun _ => ?_)
              refine li_5_1 106 dX4_tryThing_105 rfl ?_
              refine v_iconst (v := 1) 107 dX4_tryThing_106 rfl ki_1 ?_
              refine v_icmp_ne 120 110 dX4_tryThing_107 rfl rfl (fun h107 => ?_) (fun h107 => ?_)
              · refine li_5_4 122 dX4_tryThing_120 rfl ?_
                refine v_if_eq 143 125 dX4_tryThing_122 rfl rfl (fun h => absurd h (by decide)) (fun _ => ?_)
                refine li_5_1 126 dX4_tryThing_125 rfl ?_
                refine v_iconst (v := 2) 127 dX4_tryThing_126 rfl ki_2 ?_
                refine v_icmp_ne 143 130 dX4_tryThing_127 rfl rfl (fun h127 => ?_) (fun h127 => ?_)
                · exact absurd rfl h127
                · refine la_5_0 131 dX4_tryThing_130 rfl ?_
                  refine vg_X4_16 rfl 134 dX4_tryThing_131 rfl ?_
                  refine v_bipush (v := 54) 136 dX4_tryThing_134 rfl kb_54 ?_
                  refine li_5_3 137 dX4_tryThing_136 rfl ?_
                  refine v_iadd 138 dX4_tryThing_137 rfl ?_
                  refine v_iconst (v := 1) 139 dX4_tryThing_138 rfl ki_1 ?_
                  refine vmw_7 hM hb1 _ 140 dX4_tryThing_139 rfl (ixG 24 c) hkm (fun u1 hM1 hF1 => ?_)
                  refine v_goto 155 dX4_tryThing_140 rfl ?_
                  refine li_5_4 157 dX4_tryThing_155 rfl ?_
                  refine v_zret dX4_tryThing_157 rfl (Or.inr rfl) ?_
                  exact hT _ _ (Or.inr (Or.inr (Or.inl ⟨rfl, ga, q47, rfl⟩))) hM1 hF1
              · exact absurd h107 (by decide)
            · exact absurd h89 (by decide)
          · refine v_if_eq 57 53 dX4_tryThing_50 rfl rfl (fun _ => ?_) (fun h => absurd rfl h)
            refine v_iconst (v := 0) 58 dX4_tryThing_57 rfl ki_0 ?_
            refine v_goto 81 dX4_tryThing_58 rfl ?_
            refine si_5_4 rfl 83 dX4_tryThing_81 rfl rfl ?_
            refine li_5_4 85 dX4_tryThing_83 rfl ?_
            refine v_if_eq 100 88 dX4_tryThing_85 rfl rfl (fun _ => ?_) (fun h => absurd rfl h)
            refine li_5_4 102 dX4_tryThing_100 rfl ?_
            refine v_if_eq 120 105 dX4_tryThing_102 rfl rfl (fun _ => ?_) (fun h => absurd rfl h)
            refine li_5_4 122 dX4_tryThing_120 rfl ?_
            refine v_if_eq 143 125 dX4_tryThing_122 rfl rfl (fun _ => ?_) (fun h => absurd rfl h)
            refine li_5_4 145 dX4_tryThing_143 rfl ?_
            refine v_if_eq 155 148 dX4_tryThing_145 rfl rfl (fun _ => ?_) (fun h => absurd rfl h)
            refine li_5_4 157 dX4_tryThing_155 rfl ?_
            refine v_zret dX4_tryThing_157 rfl (Or.inl rfl) ?_
            exact hF (by rintro ⟨R, kz⟩; rcases kz with ⟨kz, kz2, kz3, -⟩ | ⟨kz, kz2, -⟩ | ⟨kz, kz2, kz3, -⟩ | ⟨kz, kz2, -⟩ <;> first | omega | exact q47 kz3)
    · exact absurd h22 (by decide)
  · exact absurd h1 (by decide)
set_option maxHeartbeats 4000000 in
set_option maxRecDepth 100000 in
theorem c_try3 {w : Wd} {P : PT} (hM : isM w 1 P) (hz : P.1.2.2.2 = 0 ∨ P.1.2.2.2 = 1) (hh : ∀ k, k < P.1.1 → ∃ a, a ≤ 9 ∧ P.2 1 k = nI a) (hkd : ∀ s, s < P.1.1 → P.2 2 s = 0 ∨ P.2 2 s = 1 ∨ P.2 2 s = 2 ∨ P.2 2 s = 3) {a c : Nat} (ha : a < 10) (hc : c < 10) {Q : Option Value → Wd → Prop} (hT : ∀ R u, actR P 3 a c R → isM u 1 R → FrM 1 w u → Q (some (.int 1)) u) (hF : (¬ ∃ R, actR P 3 a c R) → Q (some (.int 0)) w) : V mX4_tryThing 0 [some (.ref 1), some (.int (nI 3)), some (.int (nI a)), some (.int (nI c)), none] [] w Q := by
  have b5 := hM.2.2.1
  have b4 := hM.2.2.2.1
  refine li_5_1 1 dX4_tryThing_0 rfl ?_
  refine v_if_ne 20 4 dX4_tryThing_1 rfl rfl (fun h1 => ?_) (fun h1 => ?_)
  · refine li_5_1 21 dX4_tryThing_20 rfl ?_
    refine v_iconst (v := 1) 22 dX4_tryThing_21 rfl ki_1 ?_
    refine v_icmp_ne 35 25 dX4_tryThing_22 rfl rfl (fun h22 => ?_) (fun h22 => ?_)
    · refine li_5_1 36 dX4_tryThing_35 rfl ?_
      refine v_iconst (v := 2) 37 dX4_tryThing_36 rfl ki_2 ?_
      refine v_icmp_ne 61 40 dX4_tryThing_37 rfl rfl (fun h37 => ?_) (fun h37 => ?_)
      · refine li_5_1 62 dX4_tryThing_61 rfl ?_
        refine v_iconst (v := 3) 63 dX4_tryThing_62 rfl ki_3 ?_
        refine v_icmp_ne 80 66 dX4_tryThing_63 rfl rfl (fun h63 => ?_) (fun h63 => ?_)
        · exact absurd rfl h63
        · refine la_5_0 67 dX4_tryThing_66 rfl ?_
          refine v_iconst (v := 1) 68 dX4_tryThing_67 rfl ki_1 ?_
          refine li_5_2 69 dX4_tryThing_68 rfl ?_
          refine li_5_3 70 dX4_tryThing_69 rfl ?_
          refine v_cVI3 73 dX4_tryThing_70 rfl fvX4_canPart fiX4_canPart ml_X4_163 (seX4) rfl ⟨(Nat.le_of_ble_eq_true rfl), (Nat.le_of_ble_eq_true rfl)⟩ (Nat.le_of_ble_eq_true rfl) (Nat.le_of_ble_eq_true rfl) (c_X4_canPart (l := 1) hM hb1 (fun q70 => ⟨_, rfl, ?_⟩) (fun q70 => ⟨_, rfl, ?_⟩)) rfl
          · have hkm := joinedQ_b b5 ha hc q70
            refine v_if_eq 80 76 dX4_tryThing_73 rfl rfl (fun h => absurd h (by decide)) (fun _ => ?_)
            refine v_iconst (v := 1) 77 dX4_tryThing_76 rfl ki_1 ?_
            refine v_goto 81 dX4_tryThing_77 rfl ?_
            refine si_5_4 rfl 83 dX4_tryThing_81 rfl rfl ?_
            refine li_5_4 85 dX4_tryThing_83 rfl ?_
            refine v_if_eq 100 88 dX4_tryThing_85 rfl rfl (fun h => absurd h (by decide)) (fun _ => ?_)
            refine li_5_1 89 dX4_tryThing_88 rfl ?_
            refine v_if_ne 100 92 dX4_tryThing_89 rfl rfl (fun h89 => ?_) (fun h89 => ?_)
            · refine li_5_4 102 dX4_tryThing_100 rfl ?_
              refine v_if_eq 120 105 dX4_tryThing_102 rfl rfl (fun h => absurd h (by decide)) (fun _ => ?_)
              refine li_5_1 106 dX4_tryThing_105 rfl ?_
              refine v_iconst (v := 1) 107 dX4_tryThing_106 rfl ki_1 ?_
              refine v_icmp_ne 120 110 dX4_tryThing_107 rfl rfl (fun h107 => ?_) (fun h107 => ?_)
              · refine li_5_4 122 dX4_tryThing_120 rfl ?_
                refine v_if_eq 143 125 dX4_tryThing_122 rfl rfl (fun h => absurd h (by decide)) (fun _ => ?_)
                refine li_5_1 126 dX4_tryThing_125 rfl ?_
                refine v_iconst (v := 2) 127 dX4_tryThing_126 rfl ki_2 ?_
                refine v_icmp_ne 143 130 dX4_tryThing_127 rfl rfl (fun h127 => ?_) (fun h127 => ?_)
                · refine li_5_4 145 dX4_tryThing_143 rfl ?_
                  refine v_if_eq 155 148 dX4_tryThing_145 rfl rfl (fun h => absurd h (by decide)) (fun _ => ?_)
                  refine la_5_0 149 dX4_tryThing_148 rfl ?_
                  refine v_iconst (v := 1) 150 dX4_tryThing_149 rfl ki_1 ?_
                  refine li_5_2 151 dX4_tryThing_150 rfl ?_
                  refine li_5_3 152 dX4_tryThing_151 rfl ?_
                  refine v_cVN3 155 dX4_tryThing_152 rfl fvX4_partOn fiX4_partOn ml_X4_166 (seX4) rfl ⟨(Nat.le_of_ble_eq_true rfl), (Nat.le_of_ble_eq_true rfl)⟩ (Nat.le_of_ble_eq_true rfl) (Nat.le_of_ble_eq_true rfl) (c_X4_partOn (l := 1) hM hb1 hkm.1 hkm.2 (fun u1 hM1 hF1 => ⟨rfl, ?_⟩)) rfl
                  refine li_5_4 157 dX4_tryThing_155 rfl ?_
                  refine v_zret dX4_tryThing_157 rfl (Or.inr rfl) ?_
                  exact hT _ _ (Or.inr (Or.inr (Or.inr ⟨rfl, q70, rfl⟩))) hM1 hF1
                · exact absurd h127 (by decide)
              · exact absurd h107 (by decide)
            · exact absurd h89 (by decide)
          · refine v_if_eq 80 76 dX4_tryThing_73 rfl rfl (fun _ => ?_) (fun h => absurd rfl h)
            refine v_iconst (v := 0) 81 dX4_tryThing_80 rfl ki_0 ?_
            refine si_5_4 rfl 83 dX4_tryThing_81 rfl rfl ?_
            refine li_5_4 85 dX4_tryThing_83 rfl ?_
            refine v_if_eq 100 88 dX4_tryThing_85 rfl rfl (fun _ => ?_) (fun h => absurd rfl h)
            refine li_5_4 102 dX4_tryThing_100 rfl ?_
            refine v_if_eq 120 105 dX4_tryThing_102 rfl rfl (fun _ => ?_) (fun h => absurd rfl h)
            refine li_5_4 122 dX4_tryThing_120 rfl ?_
            refine v_if_eq 143 125 dX4_tryThing_122 rfl rfl (fun _ => ?_) (fun h => absurd rfl h)
            refine li_5_4 145 dX4_tryThing_143 rfl ?_
            refine v_if_eq 155 148 dX4_tryThing_145 rfl rfl (fun _ => ?_) (fun h => absurd rfl h)
            refine li_5_4 157 dX4_tryThing_155 rfl ?_
            refine v_zret dX4_tryThing_157 rfl (Or.inl rfl) ?_
            exact hF (by rintro ⟨R, kz⟩; rcases kz with ⟨kz, kz2, kz3, -⟩ | ⟨kz, kz2, -⟩ | ⟨kz, kz2, kz3, -⟩ | ⟨kz, kz2, -⟩ <;> first | omega | exact q70 kz2)
      · exact absurd h37 (by decide)
    · exact absurd h22 (by decide)
  · exact absurd h1 (by decide)
set_option maxHeartbeats 4000000 in
set_option maxRecDepth 100000 in
theorem c_tryh {w : Wd} {P : PT} (hM : isM w 1 P) (hz : P.1.2.2.2 = 0 ∨ P.1.2.2.2 = 1) (hh : ∀ k, k < P.1.1 → ∃ a, a ≤ 9 ∧ P.2 1 k = nI a) (hkd : ∀ s, s < P.1.1 → P.2 2 s = 0 ∨ P.2 2 s = 1 ∨ P.2 2 s = 2 ∨ P.2 2 s = 3) {a c : Nat} (ha : a < 10) (hc : c < 10) {h : Nat} (hh4 : 4 ≤ h) (hh9 : h < 10) {Q : Option Value → Wd → Prop} (hT : ∀ R u, actR P h a c R → isM u 1 R → FrM 1 w u → Q (some (.int 1)) u) (hF : (¬ ∃ R, actR P h a c R) → Q (some (.int 0)) w) : V mX4_tryThing 0 [some (.ref 1), some (.int (nI h)), some (.int (nI a)), some (.int (nI c)), none] [] w Q := by
  have b5 := hM.2.2.1
  have b4 := hM.2.2.2.1
  refine li_5_1 1 dX4_tryThing_0 rfl ?_
  refine v_if_ne 20 4 dX4_tryThing_1 rfl rfl (fun h1 => ?_) (fun h1 => ?_)
  · refine li_5_1 21 dX4_tryThing_20 rfl ?_
    refine v_iconst (v := 1) 22 dX4_tryThing_21 rfl ki_1 ?_
    refine v_icmp_ne 35 25 dX4_tryThing_22 rfl rfl (fun h22 => ?_) (fun h22 => ?_)
    · refine li_5_1 36 dX4_tryThing_35 rfl ?_
      refine v_iconst (v := 2) 37 dX4_tryThing_36 rfl ki_2 ?_
      refine v_icmp_ne 61 40 dX4_tryThing_37 rfl rfl (fun h37 => ?_) (fun h37 => ?_)
      · refine li_5_1 62 dX4_tryThing_61 rfl ?_
        refine v_iconst (v := 3) 63 dX4_tryThing_62 rfl ki_3 ?_
        refine v_icmp_ne 80 66 dX4_tryThing_63 rfl rfl (fun h63 => ?_) (fun h63 => ?_)
        · refine v_iconst (v := 0) 81 dX4_tryThing_80 rfl ki_0 ?_
          refine si_5_4 rfl 83 dX4_tryThing_81 rfl rfl ?_
          refine li_5_4 85 dX4_tryThing_83 rfl ?_
          refine v_if_eq 100 88 dX4_tryThing_85 rfl rfl (fun _ => ?_) (fun h => absurd rfl h)
          refine li_5_4 102 dX4_tryThing_100 rfl ?_
          refine v_if_eq 120 105 dX4_tryThing_102 rfl rfl (fun _ => ?_) (fun h => absurd rfl h)
          refine li_5_4 122 dX4_tryThing_120 rfl ?_
          refine v_if_eq 143 125 dX4_tryThing_122 rfl rfl (fun _ => ?_) (fun h => absurd rfl h)
          refine li_5_4 145 dX4_tryThing_143 rfl ?_
          refine v_if_eq 155 148 dX4_tryThing_145 rfl rfl (fun _ => ?_) (fun h => absurd rfl h)
          refine li_5_4 157 dX4_tryThing_155 rfl ?_
          refine v_zret dX4_tryThing_157 rfl (Or.inl rfl) ?_
          exact hF (by rintro ⟨R, kz⟩; rcases kz with ⟨kz, kz2, kz3, -⟩ | ⟨kz, kz2, -⟩ | ⟨kz, kz2, kz3, -⟩ | ⟨kz, kz2, -⟩ <;> first | omega)
        · exact absurd (nI_inj (b := 3) (by omega) (by omega) h63) (by omega)
      · exact absurd (nI_inj (b := 2) (by omega) (by omega) h37) (by omega)
    · exact absurd (nI_inj (b := 1) (by omega) (by omega) h22) (by omega)
  · exact absurd (nI_inj (b := 0) (by omega) (by omega) h1) (by omega)
theorem c_X4_tryThing {w : Wd} {P : PT} (hM : isM w 1 P) (hz : P.1.2.2.2 = 0 ∨ P.1.2.2.2 = 1) (hh : ∀ k, k < P.1.1 → ∃ a, a ≤ 9 ∧ P.2 1 k = nI a) (hkd : ∀ s, s < P.1.1 → P.2 2 s = 0 ∨ P.2 2 s = 1 ∨ P.2 2 s = 2 ∨ P.2 2 s = 3) {a c : Nat} (ha : a < 10) (hc : c < 10) {h : Nat} (hh9 : h < 10) {Q : Option Value → Wd → Prop} (hT : ∀ R u, actR P h a c R → isM u 1 R → FrM 1 w u → Q (some (.int 1)) u) (hF : (¬ ∃ R, actR P h a c R) → Q (some (.int 0)) w) : V mX4_tryThing 0 [some (.ref 1), some (.int (nI h)), some (.int (nI a)), some (.int (nI c)), none] [] w Q := by
  rcases (show h = 0 ∨ h = 1 ∨ h = 2 ∨ h = 3 ∨ 4 ≤ h by omega) with rfl | rfl | rfl | rfl | hh4
  · exact c_try0 hM hz hh hkd ha hc hT hF
  · exact c_try1 hM hz hh hkd ha hc hT hF
  · exact c_try2 hM hz hh hkd ha hc hT hF
  · exact c_try3 hM hz hh hkd ha hc hT hF
  · exact c_tryh hM hz hh hkd ha hc hh4 hh9 hT hF

def pcN (y : Nat) : Nat := kk (bcF (nI y))
theorem pc_bc : ∀ y, y < 32 → bcF (nI y) = nI (pcN y) ∧ pcN y ≤ 5 := by decide +kernel
theorem pc_on : ∀ y, y < 32 → onI (nI y) 5 = nI (pcN y) := by decide +kernel
theorem sub_le : ∀ f, f < 32 → ∀ y, y < 32 → nI y &&& (nI f ^^^ (-1)) = 0 → y ≤ f := by decide +kernel
theorem pc_n : ∀ n, n < 6 → ∀ y, y < 32 → y < 2 ^ n → pcN y ≤ n := by decide +kernel
def goodY (P : PT) (m y : Nat) : Prop := nI y &&& (freeP P ^^^ (-1)) = 0 ∧ tryF P m (nI y) = 1
def fewR (P : PT) (m : Nat) (r : Int32) : Prop := (r = -9 ∧ ∀ y, y < 32 → ¬ goodY P m y) ∨ (∃ y, y < 32 ∧ r = nI y ∧ goodY P m y ∧ ∀ x, x < 32 → goodY P m x → pcN y < pcN x ∨ (pcN y = pcN x ∧ y ≤ x))
def fewestR (P : PT) (l r : Int32) : Prop := (¬ inQ l P.1.2.1 ∧ r = -1) ∨ ∃ m, m < P.1.2.1 ∧ l = nI m ∧ ((¬ P.2 7 m = 0 ∧ r = -3) ∨ (P.2 7 m = 0 ∧ fewR P m r))
theorem fewR_det {P : PT} {m : Nat} {r t : Int32} (h1 : fewR P m r) (h2 : fewR P m t) : r = t := by
  rcases h1 with ⟨e1, n1⟩ | ⟨y1, a1, e1, g1, m1⟩ <;> rcases h2 with ⟨e2, n2⟩ | ⟨y2, a2, e2, g2, m2⟩
  · rw [e1, e2]
  · exact absurd g2 (n1 y2 a2)
  · exact absurd g1 (n2 y1 a1)
  · have k1 := m1 y2 a2 g2
    have k2 := m2 y1 a1 g1
    rw [e1, e2, show y1 = y2 by omega]
theorem fewest_det {P : PT} (h4 : P.1.2.1 ≤ 4) {l r t : Int32} (h1 : fewestR P l r) (h2 : fewestR P l t) : r = t := by
  rcases h1 with ⟨n1, e1⟩ | ⟨m1, a1, rfl, b1⟩
  · rcases h2 with ⟨n2, e2⟩ | ⟨m2, a2, e, b2⟩
    · rw [e1, e2]
    · exact absurd ⟨m2, a2, e⟩ n1
  · rcases h2 with ⟨n2, e2⟩ | ⟨m2, a2, e, b2⟩
    · exact absurd ⟨m1, a1, rfl⟩ n2
    · have em := nI_inj (by omega) (by omega) e
      subst em
      rcases b1 with ⟨c1, e1⟩ | ⟨c1, e1⟩ <;> rcases b2 with ⟨c2, e2⟩ | ⟨c2, e2⟩
      · rw [e1, e2]
      · exact absurd c2 c1
      · exact absurd c1 c2
      · exact fewR_det e1 e2
theorem free_n {P : PT} (h5 : P.1.1 ≤ 5) : ∃ f, f < 2 ^ P.1.1 ∧ f < 32 ∧ freeP P = nI f := by
  obtain ⟨f, hf, e⟩ := orB_lt (fun s => alP P s && decide (P.2 4 s = -9)) P.1.1 (by omega)
  exact ⟨f, hf, Nat.lt_of_lt_of_le hf (Nat.pow_le_pow_right (n := 2) (by decide) h5), e⟩
set_option maxHeartbeats 4000000 in
set_option maxRecDepth 100000 in
theorem c_X3_fewest {w : Wd} {P : PT} {T : TT} {A : AT} {U : Nat → Bool} {K : Nat → PT} {N : NT} {z : Int64} (hS : cS w P T A U K N z) (hz : P.1.2.2.2 = 0 ∨ P.1.2.2.2 = 1) (hq : ∀ m, m < P.1.2.1 → ∃ q, q < 1000 ∧ P.2 5 m = nI q) {l : Int32} {Q : Option Value → Wd → Prop} (hQ : ∀ r u, fewestR P l r → cS u P T A U K N z → FrC w u → Q (some (.int r)) u) : V mX3_fewest 0 [some (.ref 0), some (.int l), none, none, none, none] [] w Q := by
  have b5 := hS.1.2.2.2.2.1
  have b4 := hS.1.2.2.2.2.2.1
  obtain ⟨f, hfn, hf32, ef⟩ := free_n b5
  have inner : ∀ m s, m < P.1.2.1 → s ≤ P.1.1 → (∀ r u, fewR P m r → cS u P T A U K N z → FrC w u → Q (some (.int r)) u) → (∀ x, x < 32 → pcN x < s → ¬ goodY P m x) → (∀ u, (∀ x, x < 32 → pcN x < s + 1 → ¬ goodY P m x) → cS u P T A U K N z → FrC w u → V mX3_fewest 108 [some (.ref 0), some (.int (nI m)), some (.int (nI f)), some (.int (nI s)), none, none] [] u Q) → ∀ y, y ≤ f + 1 → ∀ u, (∀ x, x < y → pcN x = s → ¬ goodY P m x) → cS u P T A U K N z → FrC w u → V mX3_fewest 52 [some (.ref 0), some (.int (nI m)), some (.int (nI f)), some (.int (nI s)), some (.int (nI y)), none] [] u Q := by
    intro m s hm hs hQ hlow hend
    obtain ⟨q, hq9, hq5⟩ := hq m hm
    refine up (P := fun y => ∀ u, (∀ x, x < y → pcN x = s → ¬ goodY P m x) → cS u P T A U K N z → FrC w u → V mX3_fewest 52 [some (.ref 0), some (.int (nI m)), some (.int (nI f)), some (.int (nI s)), some (.int (nI y)), none] [] u Q) (fun y hy ih => ?_)
    intro u hno hSu hG
    refine li_6_4 54 dX3_fewest_52 rfl ?_
    refine li_6_2 55 dX3_fewest_54 rfl ?_
    refine v_icmp_gt 108 58 dX3_fewest_55 rfl rfl (fun h55 => ?_) (fun h55 => ?_)
    · have hyf : f < y := by rw [i_lt, nI_toInt (by omega), nI_toInt (by omega)] at h55; omega
      refine fg_6_4 ?_
      exact hend u (fun x hx hp kz => by
        rcases Nat.lt_or_ge (pcN x) s with k1 | k1
        · exact hlow x hx k1 kz
        · exact hno x (by have := sub_le f hf32 x hx (by rw [← ef]; exact kz.1); omega) (by omega) kz) hSu hG
    · have hyf : y ≤ f := by rw [i_lt, nI_toInt (by omega), nI_toInt (by omega)] at h55; omega
      have hpc := pc_bc y (by omega)
      refine li_6_4 60 dX3_fewest_58 rfl ?_
      refine li_6_2 61 dX3_fewest_60 rfl ?_
      refine v_iconst (v := (-1)) 62 dX3_fewest_61 rfl ki_m1 ?_
      refine v_ixor 63 dX3_fewest_62 rfl ?_
      refine v_iand 64 dX3_fewest_63 rfl ?_
      refine v_if_ne 80 67 dX3_fewest_64 rfl rfl (fun h64 => ?_) (fun h64 => ?_)
      · have g64 : ¬ goodY P m y := fun kz => h64 (by rw [← ef]; exact kz.1)
        refine v_iconst (v := 0) 81 dX3_fewest_80 rfl ki_0 ?_
        refine si_6_5 rfl 83 dX3_fewest_81 rfl rfl ?_
        refine li_6_5 85 dX3_fewest_83 rfl ?_
        refine v_if_eq 102 88 dX3_fewest_85 rfl rfl (fun _ => ?_) (fun h => absurd rfl h)
        refine icn_6_4 rfl 105 dX3_fewest_102 rfl rfl ?_
        refine v_goto 52 dX3_fewest_105 rfl ?_
        refine fg_6_5 ?_
        exact ih (by omega) u (fun x hx hp => by
          rcases Nat.lt_or_ge x y with kz | kz
          · exact hno x kz hp
          · rw [show x = y by omega] at hp ⊢; exact g64) hSu hG
      · have g64 : nI y &&& (freeP P ^^^ (-1)) = 0 := by rw [ef]; exact h64
        refine li_6_4 69 dX3_fewest_67 rfl ?_
        refine v_cSI1 72 dX3_fewest_69 rfl fvJ6_bitCount_0f7a4 fsJ6_bitCount_0f7a4 ml_X3_136 ⟨(Nat.le_of_ble_eq_true rfl), (Nat.le_of_ble_eq_true rfl)⟩ (Nat.le_of_ble_eq_true rfl) (Nat.le_of_ble_eq_true rfl) (c_bitCount ⟨_, rfl, ?_⟩) rfl
        refine li_6_3 73 dX3_fewest_72 rfl ?_
        refine v_icmp_ne 80 76 dX3_fewest_73 rfl rfl (fun h73 => ?_) (fun h73 => ?_)
        · have g73 : ¬ pcN y = s := fun kz => h73 (by rw [hpc.1, kz])
          refine v_iconst (v := 0) 81 dX3_fewest_80 rfl ki_0 ?_
          refine si_6_5 rfl 83 dX3_fewest_81 rfl rfl ?_
          refine li_6_5 85 dX3_fewest_83 rfl ?_
          refine v_if_eq 102 88 dX3_fewest_85 rfl rfl (fun _ => ?_) (fun h => absurd rfl h)
          refine icn_6_4 rfl 105 dX3_fewest_102 rfl rfl ?_
          refine v_goto 52 dX3_fewest_105 rfl ?_
          refine fg_6_5 ?_
          exact ih (by omega) u (fun x hx hp => by
            rcases Nat.lt_or_ge x y with kz | kz
            · exact hno x kz hp
            · rw [show x = y by omega] at hp ⊢; exact absurd hp g73) hSu hG
        · have g73 : pcN y = s := by rw [hpc.1] at h73; exact nI_inj (by omega) (by omega) h73
          refine v_iconst (v := 1) 77 dX3_fewest_76 rfl ki_1 ?_
          refine v_goto 81 dX3_fewest_77 rfl ?_
          refine si_6_5 rfl 83 dX3_fewest_81 rfl rfl ?_
          refine li_6_5 85 dX3_fewest_83 rfl ?_
          refine v_if_eq 102 88 dX3_fewest_85 rfl rfl (fun h => absurd h (by decide)) (fun _ => ?_)
          refine la_6_0 89 dX3_fewest_88 rfl ?_
          refine li_6_1 90 dX3_fewest_89 rfl ?_
          refine li_6_4 92 dX3_fewest_90 rfl ?_
          refine v_cVI2 95 dX3_fewest_92 rfl fvX3_tryToSend fiX3_tryToSend ml_X3_175 (seX3) rfl ⟨(Nat.le_of_ble_eq_true rfl), (Nat.le_of_ble_eq_true rfl)⟩ (Nat.le_of_ble_eq_true rfl) (Nat.le_of_ble_eq_true rfl) (c_X3_tryToSend hSu hz hm hq5 hq9 (fun u1 hS1 G1 => ⟨_, rfl, ?_⟩)) rfl
          refine v_iconst (v := 1) 96 dX3_fewest_95 rfl ki_1 ?_
          refine v_icmp_ne 102 99 dX3_fewest_96 rfl rfl (fun h96 => ?_) (fun h96 => ?_)
          · refine icn_6_4 rfl 105 dX3_fewest_102 rfl rfl ?_
            refine v_goto 52 dX3_fewest_105 rfl ?_
            refine fg_6_5 ?_
            exact ih (by omega) u1 (fun x hx hp => by
              rcases Nat.lt_or_ge x y with kz | kz
              · exact hno x kz hp
              · rw [show x = y by omega] at hp ⊢; exact fun kz => h96 kz.2) hS1 (hG.tr G1)
          · refine li_6_4 101 dX3_fewest_99 rfl ?_
            refine v_iret dX3_fewest_101 rfl ?_
            refine hQ _ _ (Or.inr ⟨y, by omega, rfl, ⟨g64, h96⟩, fun x hx kz => ?_⟩) hS1 (hG.tr G1)
            rcases Nat.lt_or_ge (pcN x) s with k1 | k1
            · exact absurd kz (hlow x hx k1)
            · rcases Nat.lt_or_ge s (pcN x) with k2 | k2
              · left; omega
              · right
                refine ⟨by omega, ?_⟩
                rcases Nat.lt_or_ge x y with k3 | k3
                · exact absurd kz (hno x k3 (by omega))
                · exact k3
  have key : ∀ m, m < P.1.2.1 → (∀ r u, fewR P m r → cS u P T A U K N z → FrC w u → Q (some (.int r)) u) → ∀ s, s ≤ P.1.1 + 1 → ∀ u, (∀ x, x < 32 → pcN x < s → ¬ goodY P m x) → cS u P T A U K N z → FrC w u → V mX3_fewest 38 [some (.ref 0), some (.int (nI m)), some (.int (nI f)), some (.int (nI s)), none, none] [] u Q := by
    intro m hm hQ
    refine up (P := fun s => ∀ u, (∀ x, x < 32 → pcN x < s → ¬ goodY P m x) → cS u P T A U K N z → FrC w u → V mX3_fewest 38 [some (.ref 0), some (.int (nI m)), some (.int (nI f)), some (.int (nI s)), none, none] [] u Q) (fun s hs ih => ?_)
    intro u hlow hSu hG
    refine li_6_3 39 dX3_fewest_38 rfl ?_
    refine la_6_0 40 dX3_fewest_39 rfl ?_
    refine vg_X3_23 rfl 43 dX3_fewest_40 rfl ?_
    refine vgq_X3_73 hb0 hSu.1 rfl 46 dX3_fewest_43 rfl ?_
    refine v_icmp_gt 114 49 dX3_fewest_46 rfl rfl (fun h46 => ?_) (fun h46 => ?_)
    · have hsn : P.1.1 < s := by rw [i_lt, nI_toInt (by omega), nI_toInt (by omega)] at h46; omega
      refine v_bipush (v := (-9)) 116 dX3_fewest_114 rfl kb_m9 ?_
      refine v_iret dX3_fewest_116 rfl ?_
      exact hQ _ _ (Or.inl ⟨rfl, fun y hy kz => hlow y hy (by have k1 := sub_le f hf32 y hy (by rw [← ef]; exact kz.1); have k2 := pc_n P.1.1 (by omega) y hy (by omega); omega) kz⟩) hSu hG
    · have hsn : s ≤ P.1.1 := by rw [i_lt, nI_toInt (by omega), nI_toInt (by omega)] at h46; omega
      refine v_iconst (v := 0) 50 dX3_fewest_49 rfl ki_0 ?_
      refine si_6_4 rfl 52 dX3_fewest_50 rfl rfl ?_
      refine inner m s hm hsn hQ hlow (fun u2 hl2 hS2 hG2 => ?_) 0 (Nat.zero_le _) u (fun x hx => absurd hx (Nat.not_lt_zero x)) hSu hG
      refine icn_6_3 rfl 111 dX3_fewest_108 rfl rfl ?_
      refine v_goto 38 dX3_fewest_111 rfl ?_
      exact ih (by omega) u2 hl2 hS2 hG2
  refine la_6_0 1 dX3_fewest_0 rfl ?_
  refine vg_X3_23 rfl 4 dX3_fewest_1 rfl ?_
  refine li_6_1 5 dX3_fewest_4 rfl ?_
  refine v_cVI1 8 dX3_fewest_5 rfl fvX1_hasLetter fiX1_hasLetter ml_X3_108 (seX1 hb0) rfl ⟨(Nat.le_of_ble_eq_true rfl), (Nat.le_of_ble_eq_true rfl)⟩ (Nat.le_of_ble_eq_true rfl) (Nat.le_of_ble_eq_true rfl) (c_X1_hasLetter hb0 hS.1 (fun q5 => ⟨_, rfl, ?_⟩) (fun q5 => ⟨_, rfl, ?_⟩)) rfl
  · obtain ⟨m, hm, rfl⟩ := q5
    refine v_if_ne 13 11 dX3_fewest_8 rfl rfl (fun _ => ?_) (fun h => absurd h (by decide))
    refine la_6_0 14 dX3_fewest_13 rfl ?_
    refine vg_X3_23 rfl 17 dX3_fewest_14 rfl ?_
    refine vg_X3_123 hb0 rfl 20 dX3_fewest_17 rfl ?_
    refine li_6_1 21 dX3_fewest_20 rfl ?_
    refine vlq_X1_fate hb0 hS.1 _ 22 dX3_fewest_21 rfl rfl hm ?_
    refine v_if_eq 28 25 dX3_fewest_22 rfl rfl (fun h22 => ?_) (fun h22 => ?_)
    · refine la_6_0 29 dX3_fewest_28 rfl ?_
      refine vg_X3_23 rfl 32 dX3_fewest_29 rfl ?_
      refine v_cVI0 35 dX3_fewest_32 rfl fvX1_freeBits fiX1_freeBits ml_X3_172 (seX1 hb0) rfl ⟨(Nat.le_of_ble_eq_true rfl), (Nat.le_of_ble_eq_true rfl)⟩ (Nat.le_of_ble_eq_true rfl) (Nat.le_of_ble_eq_true rfl) (c_X1_freeBits hb0 hS.1 ⟨_, rfl, ?_⟩) rfl
      rw [ef]
      refine si_6_2 rfl 36 dX3_fewest_35 rfl rfl ?_
      refine v_iconst (v := 0) 37 dX3_fewest_36 rfl ki_0 ?_
      refine si_6_3 rfl 38 dX3_fewest_37 rfl rfl ?_
      exact key m hm (fun r u kz => hQ r u (Or.inr ⟨m, hm, rfl, Or.inr ⟨h22, kz⟩⟩)) 0 (Nat.zero_le _) w (fun x _ kz => absurd kz (Nat.not_lt_zero _)) hS FrC.rf
    · refine v_bipush (v := (-3)) 27 dX3_fewest_25 rfl kb_m3 ?_
      refine v_iret dX3_fewest_27 rfl ?_
      exact hQ _ _ (Or.inr ⟨m, hm, rfl, Or.inl ⟨h22, rfl⟩⟩) hS FrC.rf
  · refine v_if_ne 13 11 dX3_fewest_8 rfl rfl (fun h => absurd rfl h) (fun _ => ?_)
    refine v_iconst (v := (-1)) 12 dX3_fewest_11 rfl ki_m1 ?_
    refine v_iret dX3_fewest_12 rfl ?_
    exact hQ _ _ (Or.inl ⟨q5, rfl⟩) hS FrC.rf
/-- the best of the sets below y -/
def bestR (P : PT) (m y : Nat) (r : Int32) : Prop := (r = -9 ∧ ∀ x, x < y → ¬ goodY P m x) ∨ (∃ b, b < y ∧ r = nI b ∧ goodY P m b ∧ ∀ x, x < y → goodY P m x → pcN b < pcN x ∨ (pcN b = pcN x ∧ b ≤ x))
theorem best_no {P : PT} {m y : Nat} {r : Int32} (h : bestR P m y r) (hn : ¬ goodY P m y) : bestR P m (y + 1) r := by
  rcases h with ⟨e, n⟩ | ⟨b, hb, e, g, mn⟩
  · refine Or.inl ⟨e, fun x hx => ?_⟩
    rcases Nat.lt_or_ge x y with kz | kz
    · exact n x kz
    · rw [show x = y by omega]; exact hn
  · refine Or.inr ⟨b, by omega, e, g, fun x hx gx => ?_⟩
    rcases Nat.lt_or_ge x y with kz | kz
    · exact mn x kz gx
    · rw [show x = y by omega] at gx; exact absurd gx hn
theorem best_old {P : PT} {m y b : Nat} (hb32 : b < 32) (hy : y < 32) (h : bestR P m y (nI b)) (hn : nI (pcN b) ≤ nI (pcN y)) : bestR P m (y + 1) (nI b) := by
  rcases h with ⟨e, n⟩ | ⟨b2, hb, e, g, mn⟩
  · exact absurd e (nm9 (by omega))
  · have eb := nI_inj (by omega) (by omega) e
    subst eb
    have k5 := (pc_bc b (by omega)).2
    have k6 := (pc_bc y hy).2
    rw [nI_leI (by omega) (by omega)] at hn
    refine Or.inr ⟨b, by omega, rfl, g, fun x hx gx => ?_⟩
    rcases Nat.lt_or_ge x y with kz | kz
    · exact mn x kz gx
    · rw [show x = y by omega]; omega
theorem best_new {P : PT} {m y : Nat} {r : Int32} (hy : y < 32) (h : bestR P m y r) (hg : goodY P m y) (hl : ∀ b, r = nI b → b < 32 → ¬ nI (pcN b) ≤ nI (pcN y)) : bestR P m (y + 1) (nI y) := by
  rcases h with ⟨e, n⟩ | ⟨b, hb, e, g, mn⟩
  · refine Or.inr ⟨y, by omega, rfl, hg, fun x hx gx => ?_⟩
    rcases Nat.lt_or_ge x y with kz | kz
    · exact absurd gx (n x kz)
    · right; rw [show x = y by omega]; exact ⟨rfl, Nat.le_refl _⟩
  · have k5 := (pc_bc b (by omega)).2
    have k6 := (pc_bc y hy).2
    have k7 := hl b e (by omega)
    rw [nI_leI (by omega) (by omega)] at k7
    refine Or.inr ⟨y, by omega, rfl, hg, fun x hx gx => ?_⟩
    rcases Nat.lt_or_ge x y with kz | kz
    · have := mn x kz gx; omega
    · right; rw [show x = y by omega]; exact ⟨rfl, Nat.le_refl _⟩
set_option maxHeartbeats 4000000 in
set_option maxRecDepth 100000 in
theorem c_X4_fewest {w : Wd} {P : PT} {T : TT} {A : AT} {U : Nat → Bool} {K : Nat → PT} {N : NT} {z : Int64} (hS : mS w P T A U K N z) (hz : P.1.2.2.2 = 0 ∨ P.1.2.2.2 = 1) (hh : ∀ k, k < P.1.1 → ∃ a, a ≤ 9 ∧ P.2 1 k = nI a) (hkd : ∀ s, s < P.1.1 → P.2 2 s = 0 ∨ P.2 2 s = 1 ∨ P.2 2 s = 2 ∨ P.2 2 s = 3) (hq : ∀ m, m < P.1.2.1 → ∃ q, q < 1000 ∧ P.2 5 m = nI q) {l : Int32} {Q : Option Value → Wd → Prop} (hQ : ∀ r u, fewestR P l r → mS u P T A U K N z → FrK w u → Q (some (.int r)) u) : V mX4_fewest 0 [some (.ref 1), some (.int l), none, none, none] [] w Q := by
  have b5 := hS.1.2.2.1
  have b4 := hS.1.2.2.2.1
  have key : ∀ m, m < P.1.2.1 → (∀ r u, fewR P m r → mS u P T A U K N z → FrK w u → Q (some (.int r)) u) → ∀ y, y ≤ 32 → ∀ r u, bestR P m y r → mS u P T A U K N z → FrK w u → V mX4_fewest 30 [some (.ref 1), some (.int (nI m)), some (.int r), some (.int (nI y)), none] [] u Q := by
    intro m hm hQ
    obtain ⟨q, hq9, hq5⟩ := hq m hm
    refine up (P := fun y => ∀ r u, bestR P m y r → mS u P T A U K N z → FrK w u → V mX4_fewest 30 [some (.ref 1), some (.int (nI m)), some (.int r), some (.int (nI y)), none] [] u Q) (fun y hy ih => ?_)
    intro r u hb hSu hG
    refine li_5_3 31 dX4_fewest_30 rfl ?_
    refine v_bipush (v := 32) 33 dX4_fewest_31 rfl kb_32 ?_
    refine v_icmp_ge 94 36 dX4_fewest_33 rfl rfl (fun h33 => ?_) (fun h33 => ?_)
    · obtain rfl := ge_eq (n := 32) h33 hy (by omega)
      refine li_5_2 95 dX4_fewest_94 rfl ?_
      refine v_iret dX4_fewest_95 rfl ?_
      exact hQ _ _ hb hSu hG
    · have hlt := ge_lt (n := 32) h33 (by omega) (by omega)
      refine li_5_2 37 dX4_fewest_36 rfl ?_
      refine v_bipush (v := (-9)) 39 dX4_fewest_37 rfl kb_m9 ?_
      refine v_icmp_eq 53 42 dX4_fewest_39 rfl rfl (fun h39 => ?_) (fun h39 => ?_)
      · refine v_iconst (v := 1) 54 dX4_fewest_53 rfl ki_1 ?_
        refine v_goto 58 dX4_fewest_54 rfl ?_
        refine si_5_4 rfl 60 dX4_fewest_58 rfl rfl ?_
        refine li_5_4 62 dX4_fewest_60 rfl ?_
        refine v_if_eq 88 65 dX4_fewest_62 rfl rfl (fun h => absurd h (by decide)) (fun _ => ?_)
        refine li_5_3 66 dX4_fewest_65 rfl ?_
        refine la_5_0 67 dX4_fewest_66 rfl ?_
        refine v_cVI0 70 dX4_fewest_67 rfl fvX4_freeOnes fiX4_freeOnes ml_X4_172 (seX4) rfl ⟨(Nat.le_of_ble_eq_true rfl), (Nat.le_of_ble_eq_true rfl)⟩ (Nat.le_of_ble_eq_true rfl) (Nat.le_of_ble_eq_true rfl) (c_X4_freeOnes hSu.1 ⟨_, rfl, ?_⟩) rfl
        refine v_iconst (v := (-1)) 71 dX4_fewest_70 rfl ki_m1 ?_
        refine v_ixor 72 dX4_fewest_71 rfl ?_
        refine v_iand 73 dX4_fewest_72 rfl ?_
        refine v_if_ne 88 76 dX4_fewest_73 rfl rfl (fun h73 => ?_) (fun h73 => ?_)
        · refine icn_5_3 rfl 91 dX4_fewest_88 rfl rfl ?_
          refine v_goto 30 dX4_fewest_91 rfl ?_
          refine fg_5_4 ?_
          exact ih hlt _ u (best_no hb (fun kz => h73 kz.1)) hSu hG
        · refine la_5_0 77 dX4_fewest_76 rfl ?_
          refine li_5_1 78 dX4_fewest_77 rfl ?_
          refine li_5_3 79 dX4_fewest_78 rfl ?_
          refine v_cVI2 82 dX4_fewest_79 rfl fvX4_ends fiX4_ends ml_X4_175 (seX4) rfl ⟨(Nat.le_of_ble_eq_true rfl), (Nat.le_of_ble_eq_true rfl)⟩ (Nat.le_of_ble_eq_true rfl) (Nat.le_of_ble_eq_true rfl) (c_X4_ends hSu hz hh hkd hm hq5 hq9 (fun u1 hS1 G1 => ⟨_, rfl, ?_⟩)) rfl
          refine v_iconst (v := 1) 83 dX4_fewest_82 rfl ki_1 ?_
          refine v_icmp_ne 88 86 dX4_fewest_83 rfl rfl (fun h83 => ?_) (fun h83 => ?_)
          · refine icn_5_3 rfl 91 dX4_fewest_88 rfl rfl ?_
            refine v_goto 30 dX4_fewest_91 rfl ?_
            refine fg_5_4 ?_
            exact ih hlt _ u1 (best_no hb (fun kz => h83 kz.2)) hS1 (hG.tr G1)
          · refine li_5_3 87 dX4_fewest_86 rfl ?_
            refine si_5_2 rfl 88 dX4_fewest_87 rfl rfl ?_
            refine icn_5_3 rfl 91 dX4_fewest_88 rfl rfl ?_
            refine v_goto 30 dX4_fewest_91 rfl ?_
            refine fg_5_4 ?_
            exact ih hlt _ u1 (best_new hlt hb ⟨h73, h83⟩ (fun b kz _ => absurd (h39.symm.trans kz).symm (nm9 (by omega)))) hS1 (hG.tr G1)
      · refine li_5_3 43 dX4_fewest_42 rfl ?_
        refine v_cSI1 46 dX4_fewest_43 rfl fvX4_ones fsX4_ones ml_X4_147 ⟨(Nat.le_of_ble_eq_true rfl), (Nat.le_of_ble_eq_true rfl)⟩ (Nat.le_of_ble_eq_true rfl) (Nat.le_of_ble_eq_true rfl) (c_X4_ones ⟨_, rfl, ?_⟩) rfl
        refine li_5_2 47 dX4_fewest_46 rfl ?_
        refine v_cSI1 50 dX4_fewest_47 rfl fvX4_ones fsX4_ones ml_X4_147 ⟨(Nat.le_of_ble_eq_true rfl), (Nat.le_of_ble_eq_true rfl)⟩ (Nat.le_of_ble_eq_true rfl) (Nat.le_of_ble_eq_true rfl) (c_X4_ones ⟨_, rfl, ?_⟩) rfl
        refine v_icmp_ge 57 53 dX4_fewest_50 rfl rfl (fun h50 => ?_) (fun h50 => ?_)
        · have hbb : ∃ b, b < y ∧ r = nI b := by
            rcases hb with ⟨ke, _⟩ | ⟨b, kb, ke, _⟩
            · exact absurd ke h39
            · exact ⟨b, kb, ke⟩
          obtain ⟨b, hby, rfl⟩ := hbb
          rw [pc_on y hlt, pc_on b (by omega)] at h50
          refine v_iconst (v := 0) 58 dX4_fewest_57 rfl ki_0 ?_
          refine si_5_4 rfl 60 dX4_fewest_58 rfl rfl ?_
          refine li_5_4 62 dX4_fewest_60 rfl ?_
          refine v_if_eq 88 65 dX4_fewest_62 rfl rfl (fun _ => ?_) (fun h => absurd rfl h)
          refine icn_5_3 rfl 91 dX4_fewest_88 rfl rfl ?_
          refine v_goto 30 dX4_fewest_91 rfl ?_
          refine fg_5_4 ?_
          exact ih hlt _ u (best_old (by omega) hlt hb h50) hSu hG
        · have hbb : ∃ b, b < y ∧ r = nI b := by
            rcases hb with ⟨ke, _⟩ | ⟨b, kb, ke, _⟩
            · exact absurd ke h39
            · exact ⟨b, kb, ke⟩
          obtain ⟨b, hby, rfl⟩ := hbb
          rw [pc_on y hlt, pc_on b (by omega)] at h50
          refine v_iconst (v := 1) 54 dX4_fewest_53 rfl ki_1 ?_
          refine v_goto 58 dX4_fewest_54 rfl ?_
          refine si_5_4 rfl 60 dX4_fewest_58 rfl rfl ?_
          refine li_5_4 62 dX4_fewest_60 rfl ?_
          refine v_if_eq 88 65 dX4_fewest_62 rfl rfl (fun h => absurd h (by decide)) (fun _ => ?_)
          refine li_5_3 66 dX4_fewest_65 rfl ?_
          refine la_5_0 67 dX4_fewest_66 rfl ?_
          refine v_cVI0 70 dX4_fewest_67 rfl fvX4_freeOnes fiX4_freeOnes ml_X4_172 (seX4) rfl ⟨(Nat.le_of_ble_eq_true rfl), (Nat.le_of_ble_eq_true rfl)⟩ (Nat.le_of_ble_eq_true rfl) (Nat.le_of_ble_eq_true rfl) (c_X4_freeOnes hSu.1 ⟨_, rfl, ?_⟩) rfl
          refine v_iconst (v := (-1)) 71 dX4_fewest_70 rfl ki_m1 ?_
          refine v_ixor 72 dX4_fewest_71 rfl ?_
          refine v_iand 73 dX4_fewest_72 rfl ?_
          refine v_if_ne 88 76 dX4_fewest_73 rfl rfl (fun h73 => ?_) (fun h73 => ?_)
          · refine icn_5_3 rfl 91 dX4_fewest_88 rfl rfl ?_
            refine v_goto 30 dX4_fewest_91 rfl ?_
            refine fg_5_4 ?_
            exact ih hlt _ u (best_no hb (fun kz => h73 kz.1)) hSu hG
          · refine la_5_0 77 dX4_fewest_76 rfl ?_
            refine li_5_1 78 dX4_fewest_77 rfl ?_
            refine li_5_3 79 dX4_fewest_78 rfl ?_
            refine v_cVI2 82 dX4_fewest_79 rfl fvX4_ends fiX4_ends ml_X4_175 (seX4) rfl ⟨(Nat.le_of_ble_eq_true rfl), (Nat.le_of_ble_eq_true rfl)⟩ (Nat.le_of_ble_eq_true rfl) (Nat.le_of_ble_eq_true rfl) (c_X4_ends hSu hz hh hkd hm hq5 hq9 (fun u1 hS1 G1 => ⟨_, rfl, ?_⟩)) rfl
            refine v_iconst (v := 1) 83 dX4_fewest_82 rfl ki_1 ?_
            refine v_icmp_ne 88 86 dX4_fewest_83 rfl rfl (fun h83 => ?_) (fun h83 => ?_)
            · refine icn_5_3 rfl 91 dX4_fewest_88 rfl rfl ?_
              refine v_goto 30 dX4_fewest_91 rfl ?_
              refine fg_5_4 ?_
              exact ih hlt _ u1 (best_no hb (fun kz => h83 kz.2)) hS1 (hG.tr G1)
            · refine li_5_3 87 dX4_fewest_86 rfl ?_
              refine si_5_2 rfl 88 dX4_fewest_87 rfl rfl ?_
              refine icn_5_3 rfl 91 dX4_fewest_88 rfl rfl ?_
              refine v_goto 30 dX4_fewest_91 rfl ?_
              refine fg_5_4 ?_
              exact ih hlt _ u1 (best_new hlt hb ⟨h73, h83⟩ (fun b2 kz k2 => by rw [← nI_inj (by omega) (by omega) kz]; exact h50)) hS1 (hG.tr G1)
  refine la_5_0 1 dX4_fewest_0 rfl ?_
  refine li_5_1 2 dX4_fewest_1 rfl ?_
  refine v_cVI1 5 dX4_fewest_2 rfl fvX4_isLetter fiX4_isLetter ml_X4_132 (seX4) rfl ⟨(Nat.le_of_ble_eq_true rfl), (Nat.le_of_ble_eq_true rfl)⟩ (Nat.le_of_ble_eq_true rfl) (Nat.le_of_ble_eq_true rfl) (c_X4_isLetter hS.1 hb0 (fun q2 => ⟨_, rfl, ?_⟩) (fun q2 => ⟨_, rfl, ?_⟩)) rfl
  · obtain ⟨m, hm, rfl⟩ := q2
    refine v_if_ne 10 8 dX4_fewest_5 rfl rfl (fun _ => ?_) (fun h => absurd h (by decide))
    refine la_5_0 11 dX4_fewest_10 rfl ?_
    refine vg_X4_16 rfl 14 dX4_fewest_11 rfl ?_
    refine v_bipush (v := 24) 16 dX4_fewest_14 rfl kb_24 ?_
    refine li_5_1 17 dX4_fewest_16 rfl ?_
    refine v_iadd 18 dX4_fewest_17 rfl ?_
    refine vmn_7 hS.1 hb0 _ 19 dX4_fewest_18 rfl (ixC 24 m) hm ?_
    refine v_if_eq 25 22 dX4_fewest_19 rfl rfl (fun h19 => ?_) (fun h19 => ?_)
    · refine v_bipush (v := (-9)) 27 dX4_fewest_25 rfl kb_m9 ?_
      refine si_5_2 rfl 28 dX4_fewest_27 rfl rfl ?_
      refine v_iconst (v := 0) 29 dX4_fewest_28 rfl ki_0 ?_
      refine si_5_3 rfl 30 dX4_fewest_29 rfl rfl ?_
      exact key m hm (fun r u kz => hQ r u (Or.inr ⟨m, hm, rfl, Or.inr ⟨h19, kz⟩⟩)) 0 (Nat.zero_le _) (-9) w (Or.inl ⟨rfl, fun x hx => absurd hx (Nat.not_lt_zero x)⟩) hS FrK.rf
    · refine v_bipush (v := (-3)) 24 dX4_fewest_22 rfl kb_m3 ?_
      refine v_iret dX4_fewest_24 rfl ?_
      exact hQ _ _ (Or.inr ⟨m, hm, rfl, Or.inl ⟨h19, rfl⟩⟩) hS FrK.rf
  · refine v_if_ne 10 8 dX4_fewest_5 rfl rfl (fun h => absurd rfl h) (fun _ => ?_)
    refine v_iconst (v := (-1)) 9 dX4_fewest_8 rfl ki_m1 ?_
    refine v_iret dX4_fewest_9 rfl ?_
    exact hQ _ _ (Or.inl ⟨q2, rfl⟩) hS FrK.rf

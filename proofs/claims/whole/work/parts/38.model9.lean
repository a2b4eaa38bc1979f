set_option maxHeartbeats 4000000 in
set_option maxRecDepth 100000 in
theorem c_X4_keep {w : Wd} {P : PT} {T : TT} {A : AT} {U : Nat → Bool} {K : Nat → PT} {N : NT} {z : Int64} (hS : mS w P T A U K N z) {i : Int32} {Q : Option Value → Wd → Prop} (hQ : ∀ u, mS u P T A (keepF P U K i).2.1 (keepF P U K i).2.2 N z → FrK w u → Q (some (.int (keepF P U K i).1)) u) : V mX4_keep 0 [some (.ref 1), some (.int i), none] [] w Q := by
  obtain ⟨hM, a, b, c, d, e, f⟩ := id hS
  have key : ∀ k, k < 2 → (∀ u, mS u P T A (keepF P U K (nI k)).2.1 (keepF P U K (nI k)).2.2 N z → FrK w u → Q (some (.int (keepF P U K (nI k)).1)) u) → ∀ t, t ≤ 30 → ∀ u, u.1 = w.1 → u.2.1 = w.2.1 → (∀ r, ¬ r = 42 → ¬ r = 43 → u.2.2 r = w.2.2 r) → (∀ j, u.2.2 42 j = if j = k then 1 else w.2.2 42 j) → (∀ j, j < t → u.2.2 43 (30 * k + j) = w.2.2 33 (30 * 0 + j)) → (∀ j, (j < 30 * k ∨ 30 * k + 30 ≤ j) → u.2.2 43 j = w.2.2 43 j) → V mX4_keep 21 [some (.ref 1), some (.int (nI k)), some (.int (nI t))] [] u Q := by
    intro k hk hQ
    refine up (P := fun t => ∀ u, u.1 = w.1 → u.2.1 = w.2.1 → (∀ r, ¬ r = 42 → ¬ r = 43 → u.2.2 r = w.2.2 r) → (∀ j, u.2.2 42 j = if j = k then 1 else w.2.2 42 j) → (∀ j, j < t → u.2.2 43 (30 * k + j) = w.2.2 33 (30 * 0 + j)) → (∀ j, (j < 30 * k ∨ 30 * k + 30 ≤ j) → u.2.2 43 j = w.2.2 43 j) → V mX4_keep 21 [some (.ref 1), some (.int (nI k)), some (.int (nI t))] [] u Q) (fun t hi ih => ?_)
    intro u e1' e2' e3' e42 hv hv2
    have hMu : isM u 0 P := hM.mv (by rw [e1']) (by rw [e1']) (fun r h1 h2 => e3' r (by omega) (by omega))
    refine li_3_2 22 dX4_keep_21 rfl ?_
    refine v_bipush (v := 30) 24 dX4_keep_22 rfl kb_30 ?_
    refine v_icmp_ge 50 27 dX4_keep_24 rfl rfl (fun h24 => ?_) (fun h24 => ?_)
    · obtain rfl := ge_eq (n := 30) h24 hi (by omega)
      refine la_3_0 51 dX4_keep_50 rfl ?_
      refine vg_X4_16 rfl 54 dX4_keep_51 rfl ?_
      refine v_bipush (v := 29) 56 dX4_keep_54 rfl kb_29 ?_
      refine vmr_week hMu hb0 57 dX4_keep_56 rfl rfl ?_
      refine v_iret dX4_keep_57 rfl ?_
      rw [show keepF P U K (nI k) = (P.1.2.2.1, fun j => if j = k then true else U j, fun j => if j = k then P else K j) from by unfold keepF; rw [kk_nI (by omega)]; exact ifP_neg (fun q => q ⟨k, hk, rfl⟩)] at hQ
      refine hQ _ ⟨hMu, ?_⟩ ⟨fun j hj => by rw [e1'], by rw [e2'], fun r hr => e3' r (by omega) (by omega)⟩
      obtain ⟨b1, b2, q, b3, b4, b5⟩ := b
      refine ⟨⟨by rw [e1']; exact a.1, a.2.1, by rw [e3' 37 (by decide) (by decide)]; exact a.2.2⟩, ⟨by rw [e1']; exact b1, b2, q, b3, by rw [e1']; exact b4, by rw [e3' 38 (by decide) (by decide)]; exact b5⟩, fun j hj => ?_, fun j hj hu => ?_, ⟨by rw [e1']; exact e.1, e.2.1, by rw [e3' 39 (by decide) (by decide), e3' 40 (by decide) (by decide), e3' 41 (by decide) (by decide)]; exact e.2.2⟩, by rw [e2']; exact f⟩
      · show u.2.2 42 j = bI (if j = k then true else U j)
        rw [e42]
        by_cases kz : j = k
        · rw [if_pos kz, if_pos kz]; rfl
        · rw [if_neg kz, if_neg kz]; exact c j hj
      · show rowB (u.2.2 43) (30 * j) (if j = k then P else K j)
        by_cases kz : j = k
        · rw [if_pos kz, kz]; exact ⟨hM.2.2.1, hM.2.2.2.1, hM.2.2.2.2.1.shift hM.2.2.1 hM.2.2.2.1 (fun x hx => hv x hx)⟩
        · rw [if_neg kz]
          have hu' : (if j = k then true else U j) = true := hu
          rw [if_neg kz] at hu'
          exact (d j hj hu').shift (fun x hx => hv2 _ (by omega))
    · have hlt := ge_lt (n := 30) h24 (by omega) (by omega)
      refine la_3_0 28 dX4_keep_27 rfl ?_
      refine vg_X4_47 rfl 31 dX4_keep_28 rfl ?_
      refine v_bipush (v := 30) 33 dX4_keep_31 rfl kb_30 ?_
      refine li_3_1 34 dX4_keep_33 rfl ?_
      refine v_imul 35 dX4_keep_34 rfl ?_
      refine li_3_2 36 dX4_keep_35 rfl ?_
      refine v_iadd 37 dX4_keep_36 rfl ?_
      refine la_3_0 38 dX4_keep_37 rfl ?_
      refine vg_X4_16 rfl 41 dX4_keep_38 rfl ?_
      refine li_3_2 42 dX4_keep_41 rfl ?_
      refine vl_X4_now _ 43 dX4_keep_42 rfl rfl (by omega) ?_
      refine vw_X4_kept (30 * k + t) 44 dX4_keep_43 rfl (ixA k t) (by omega) (vrel (fun u1 e1 F1 => ?_))
      refine icn_3_2 rfl 47 dX4_keep_44 rfl rfl ?_
      refine v_goto 21 dX4_keep_47 rfl ?_
      refine ih hlt _ (by rw [F1.1]; exact e1') (by rw [F1.2.1]; exact e2') (fun r h1 h2 => (F1.2.2 r h2).trans (e3' r h1 h2)) (fun j => by rw [F1.2.2 42 (by decide)]; exact e42 j) (fun j hj => ?_) (fun j hj => ?_)
      · rw [e1]
        by_cases ej : j = t
        · rw [if_pos (by rw [ej]), e3' 33 (by decide) (by decide), ej, Nat.mul_zero, Nat.zero_add]
        · rw [if_neg (by omega)]; exact hv j (by omega)
      · rw [e1, if_neg (by omega)]; exact hv2 j hj
  refine li_3_1 1 dX4_keep_0 rfl ?_
  refine v_i2l 2 dX4_keep_1 rfl ?_
  refine v_lconst (v := 0) 3 dX4_keep_2 rfl rfl ?_
  refine v_lconst (v := 1) 4 dX4_keep_3 rfl rfl ?_
  refine v_cSI3 7 dX4_keep_4 rfl fvX4_in fsX4_in ml_X4_56 ⟨(Nat.le_of_ble_eq_true rfl), (Nat.le_of_ble_eq_true rfl)⟩ (Nat.le_of_ble_eq_true rfl) (Nat.le_of_ble_eq_true rfl) (c_X4_in (fun q4 => ⟨_, rfl, ?_⟩) (fun q4 => ⟨_, rfl, ?_⟩)) rfl
  · obtain ⟨k, hk, rfl⟩ := in1 q4
    refine v_if_ne 12 10 dX4_keep_7 rfl rfl (fun _ => ?_) (fun h => absurd h (by decide))
    refine la_3_0 13 dX4_keep_12 rfl ?_
    refine vg_X4_43 rfl 16 dX4_keep_13 rfl ?_
    refine li_3_1 17 dX4_keep_16 rfl ?_
    refine v_iconst (v := 1) 18 dX4_keep_17 rfl ki_1 ?_
    refine vw_X4_isKept k 19 dX4_keep_18 rfl rfl hk (Or.inr rfl) (vrel (fun u1 e1 F1 => ?_))
    refine v_iconst (v := 0) 20 dX4_keep_19 rfl ki_0 ?_
    refine si_3_2 rfl 21 dX4_keep_20 rfl rfl ?_
    exact key k hk hQ 0 (Nat.zero_le _) u1 F1.1 F1.2.1 (fun r h1 _ => F1.2.2 r h1) e1 (fun j hj => absurd hj (Nat.not_lt_zero j)) (fun j _ => by rw [F1.2.2 43 (by decide)])
  · refine v_if_ne 12 10 dX4_keep_7 rfl rfl (fun h => absurd rfl h) (fun _ => ?_)
    refine v_iconst (v := (-1)) 11 dX4_keep_10 rfl ki_m1 ?_
    refine v_iret dX4_keep_11 rfl ?_
    rw [show keepF P U K i = (-1, U, K) from ifP_pos (out1 q4)] at hQ
    exact hQ _ hS FrK.rf
set_option maxHeartbeats 4000000 in
set_option maxRecDepth 100000 in
theorem c_X4_again {w : Wd} {P : PT} {T : TT} {A : AT} {U : Nat → Bool} {K : Nat → PT} {N : NT} {z : Int64} (hS : mS w P T A U K N z) (hU : ∀ i, i < 2 → U i = true → sameK P (K i)) {i : Int32} {Q : Option Value → Wd → Prop} (hQ : ∀ u, mS u (againF P A U K i).2.1 T (againF P A U K i).2.2 U K N z → FrK w u → Q (some (.int (againF P A U K i).1)) u) : V mX4_again 0 [some (.ref 1), some (.int i), none] [] w Q := by
  obtain ⟨hM, a, b, c, d, e, f⟩ := id hS
  have key : ∀ k, k < 2 → U k = true → (∀ u, mS u (againF P A U K (nI k)).2.1 T (againF P A U K (nI k)).2.2 U K N z → FrK w u → Q (some (.int (againF P A U K (nI k)).1)) u) → ∀ t, t ≤ 30 → ∀ u, (∀ j, j < t → u.2.2 33 (30 * 0 + j) = w.2.2 43 (30 * k + j)) → FrA 33 w u → V mX4_again 26 [some (.ref 1), some (.int (nI k)), some (.int (nI t))] [] u Q := by
    intro k hk hu hQ
    refine up (P := fun t => ∀ u, (∀ j, j < t → u.2.2 33 (30 * 0 + j) = w.2.2 43 (30 * k + j)) → FrA 33 w u → V mX4_again 26 [some (.ref 1), some (.int (nI k)), some (.int (nI t))] [] u Q) (fun t hi ih => ?_)
    intro u hv hF
    refine li_3_2 27 dX4_again_26 rfl ?_
    refine v_bipush (v := 30) 29 dX4_again_27 rfl kb_30 ?_
    refine v_icmp_ge 55 32 dX4_again_29 rfl rfl (fun h29 => ?_) (fun h29 => ?_)
    · obtain rfl := ge_eq (n := 30) h29 hi (by omega)
      have hMu : isM u 0 (K k) := hM.over (hU k hk hu) (by rw [hF.1]) (by rw [hF.1]) (hF.2.2 31 (by decide)) (hF.2.2 32 (by decide)) (d k hk hu) hv
      have hMv : isM (sI u 23 0) 0 (K k) := hMu.oS (by decide)
      refine la_3_0 56 dX4_again_55 rfl ?_
      refine v_iconst (v := 0) 57 dX4_again_56 rfl ki_0 ?_
      refine vs_X4_102 rfl 60 dX4_again_57 rfl ?_
      refine la_3_0 61 dX4_again_60 rfl ?_
      refine vg_X4_16 rfl 64 dX4_again_61 rfl ?_
      refine v_bipush (v := 29) 66 dX4_again_64 rfl kb_29 ?_
      refine vmr_week hMv hb0 67 dX4_again_66 rfl rfl ?_
      refine v_iret dX4_again_67 rfl ?_
      rw [show againF P A U K (nI k) = ((K k).1.2.2.1, K k, (0, A.2)) from by unfold againF; rw [kk_nI (by omega)]; exact (ifP_neg (fun q => q ⟨k, hk, rfl⟩)).trans (ifP_neg (by rw [hu]; decide))] at hQ
      refine hQ _ ⟨hMv, ?_⟩ ((hF.K (by decide)).tr (FrK.oI (by decide)))
      obtain ⟨b1, b2, q, b3, b4, b5⟩ := b
      refine ⟨⟨by show u.1 20 = _; rw [hF.1]; exact a.1, a.2.1, ?_⟩, ⟨rfl, Nat.zero_le _, q, b3, by show u.1 24 = _; rw [hF.1]; exact b4, fun j hj => absurd hj (Nat.not_lt_zero j)⟩, ?_, ?_, ⟨by show u.1 25 = _; rw [hF.1]; exact e.1, e.2.1, ?_⟩, by show u.2.1 1 = _; rw [hF.2.1]; exact f⟩
      · show ∀ i, i < T.1 → u.2.2 37 i = _; rw [hF.2.2 37 (by decide)]; exact a.2.2
      · show ∀ i, i < 2 → u.2.2 42 i = _; rw [hF.2.2 42 (by decide)]; exact c
      · show ∀ i, i < 2 → U i = true → rowB (u.2.2 43) (30 * i) (K i); rw [hF.2.2 43 (by decide)]; exact d
      · show ∀ i, i < N.1 → u.2.2 39 i = _ ∧ u.2.2 40 i = _ ∧ u.2.2 41 i = _; rw [hF.2.2 39 (by decide), hF.2.2 40 (by decide), hF.2.2 41 (by decide)]; exact e.2.2
    · have hlt := ge_lt (n := 30) h29 (by omega) (by omega)
      refine la_3_0 33 dX4_again_32 rfl ?_
      refine vg_X4_16 rfl 36 dX4_again_33 rfl ?_
      refine li_3_2 37 dX4_again_36 rfl ?_
      refine la_3_0 38 dX4_again_37 rfl ?_
      refine vg_X4_47 rfl 41 dX4_again_38 rfl ?_
      refine v_bipush (v := 30) 43 dX4_again_41 rfl kb_30 ?_
      refine li_3_1 44 dX4_again_43 rfl ?_
      refine v_imul 45 dX4_again_44 rfl ?_
      refine li_3_2 46 dX4_again_45 rfl ?_
      refine v_iadd 47 dX4_again_46 rfl ?_
      refine vl_X4_kept (30 * k + t) 48 dX4_again_47 rfl (ixA k t) (by omega) ?_
      refine vw_X4_now t 49 dX4_again_48 rfl rfl (by omega) (vrel (fun u1 e1 F1 => ?_))
      refine icn_3_2 rfl 52 dX4_again_49 rfl rfl ?_
      refine v_goto 26 dX4_again_52 rfl ?_
      refine ih hlt _ (fun j hj => ?_) (hF.tr F1)
      rw [e1]
      by_cases ej : j = t
      · rw [if_pos (by omega), hF.2.2 43 (by decide), ej]
      · rw [if_neg (by omega)]; exact hv j (by omega)
  refine li_3_1 1 dX4_again_0 rfl ?_
  refine v_i2l 2 dX4_again_1 rfl ?_
  refine v_lconst (v := 0) 3 dX4_again_2 rfl rfl ?_
  refine v_lconst (v := 1) 4 dX4_again_3 rfl rfl ?_
  refine v_cSI3 7 dX4_again_4 rfl fvX4_in fsX4_in ml_X4_56 ⟨(Nat.le_of_ble_eq_true rfl), (Nat.le_of_ble_eq_true rfl)⟩ (Nat.le_of_ble_eq_true rfl) (Nat.le_of_ble_eq_true rfl) (c_X4_in (fun q4 => ⟨_, rfl, ?_⟩) (fun q4 => ⟨_, rfl, ?_⟩)) rfl
  · obtain ⟨k, hk, rfl⟩ := in1 q4
    have hu := c k hk
    refine v_if_ne 12 10 dX4_again_7 rfl rfl (fun _ => ?_) (fun h => absurd h (by decide))
    refine la_3_0 13 dX4_again_12 rfl ?_
    refine vg_X4_43 rfl 16 dX4_again_13 rfl ?_
    refine li_3_1 17 dX4_again_16 rfl ?_
    refine vl_X4_isKept k 18 dX4_again_17 rfl rfl hk ?_
    refine v_if_ne 24 21 dX4_again_18 rfl rfl (fun h18 => ?_) (fun h18 => ?_)
    · have g : U k = true := by rw [hu] at h18; cases kq : U k <;> simp [kq, bI] at h18 ⊢
      refine v_iconst (v := 0) 25 dX4_again_24 rfl ki_0 ?_
      refine si_3_2 rfl 26 dX4_again_25 rfl rfl ?_
      exact key k hk g hQ 0 (Nat.zero_le _) w (fun j hj => absurd hj (Nat.not_lt_zero j)) FrA.rf
    · have g : U k = false := by rw [hu] at h18; cases kq : U k <;> simp [kq, bI] at h18 ⊢
      refine v_bipush (v := (-3)) 23 dX4_again_21 rfl kb_m3 ?_
      refine v_iret dX4_again_23 rfl ?_
      rw [show againF P A U K (nI k) = (-3, P, A) from by unfold againF; rw [kk_nI (by omega)]; exact (ifP_neg (fun q => q ⟨k, hk, rfl⟩)).trans (ifP_pos g)] at hQ
      exact hQ _ hS FrK.rf
  · refine v_if_ne 12 10 dX4_again_7 rfl rfl (fun h => absurd rfl h) (fun _ => ?_)
    refine v_iconst (v := (-1)) 11 dX4_again_10 rfl ki_m1 ?_
    refine v_iret dX4_again_11 rfl ?_
    rw [show againF P A U K i = (-1, P, A) from ifP_pos (out1 q4)] at hQ
    exact hQ _ hS FrK.rf
theorem stickI_h (P : PT) (x l : Int32) (hh : ∀ k, k < P.1.1 → ∃ a, a ≤ 9 ∧ P.2 1 k = nI a) : ∀ i k, k < P.1.1 → ∃ a, a ≤ 9 ∧ (stickI P x l i).2 1 k = nI a
  | 0, k, hk => hh k hk
  | i + 1, k, hk => by
    unfold stickI
    split
    · have hit : ∀ a, a ≤ 9 → ∃ b, b ≤ 9 ∧ hitF (nI a) = nI b := by
        intro a ha
        have dec : ∀ a, a < 10 → hitF (nI a) = nI (a - 1) := by decide +kernel
        exact ⟨a - 1, by omega, dec a (by omega)⟩
      by_cases e : k = i
      · obtain ⟨a, ha, ea⟩ := stickI_h P x l hh i k hk
        obtain ⟨b, hb, eb⟩ := hit a ha
        refine ⟨b, hb, ?_⟩
        rw [← eb, ← ea, e]
        simp [stickP, setP]
      · obtain ⟨a, ha, ea⟩ := stickI_h P x l hh i k hk
        refine ⟨a, ha, ?_⟩
        rw [← ea]
        simp [stickP, setP, e]
    · exact stickI_h P x l hh i k hk
theorem stickI_2 (P : PT) (x l : Int32) (k : Nat) : ∀ i, (stickI P x l i).2 2 k = P.2 2 k
  | 0 => rfl
  | i + 1 => by
    unfold stickI
    split
    · exact (show (stickP (stickI P x l i) i l).2 2 k = (stickI P x l i).2 2 k by simp [stickP, setP]).trans (stickI_2 P x l k i)
    · exact stickI_2 P x l k i
theorem ixG (c s : Nat) : nI (30 + c) + nI s = nI (30 * 1 + c + s) := by rw [nI_add]
set_option maxHeartbeats 4000000 in
set_option maxRecDepth 100000 in
theorem c_X4_ends {w : Wd} {P : PT} {T : TT} {A : AT} {U : Nat → Bool} {K : Nat → PT} {N : NT} {z : Int64} (hS : mS w P T A U K N z) (hz : P.1.2.2.2 = 0 ∨ P.1.2.2.2 = 1) (hh : ∀ k, k < P.1.1 → ∃ a, a ≤ 9 ∧ P.2 1 k = nI a) (hkd : ∀ s, s < P.1.1 → P.2 2 s = 0 ∨ P.2 2 s = 1 ∨ P.2 2 s = 2 ∨ P.2 2 s = 3) {m : Nat} (hm : m < P.1.2.1) {q : Nat} (hq : P.2 5 m = nI q) (hq9 : q < 1000) {x : Int32} {Q : Option Value → Wd → Prop} (hQ : ∀ u, mS u P T A U K N z → FrK w u → Q (some (.int (tryF P m x))) u) : V mX4_ends 0 [some (.ref 1), some (.int (nI m)), some (.int x), none] [] w Q := by
  have b5 := hS.1.2.2.1
  have b4 := hS.1.2.2.2.1
  have key2 : sendQ (stickI P x (nI m) P.1.1) (nI m) → ∀ j, j ≤ q → ∀ u, isM u 1 (passN (sendP (stickI P x (nI m) P.1.1) m) j) → FrM 1 w u → V mX4_ends 67 [some (.ref 1), some (.int (nI m)), some (.int x), some (.int (nI (q - j)))] [] u Q := by
    intro hs
    rw [show tryF P m x = (if (passN (sendP (stickI P x (nI m) P.1.1) m) q).2 7 m = 2 then 1 else 0) from by unfold tryF; rw [hq, kk_nI (by omega)]; exact ifP_neg (fun z => z hs)] at hQ
    refine up (P := fun j => ∀ u, isM u 1 (passN (sendP (stickI P x (nI m) P.1.1) m) j) → FrM 1 w u → V mX4_ends 67 [some (.ref 1), some (.int (nI m)), some (.int x), some (.int (nI (q - j)))] [] u Q) (fun j hj ih => ?_)
    intro u hM hF
    have hL : (passN (sendP (stickI P x (nI m) P.1.1) m) j).1.2.1 = P.1.2.1 := by rw [(passN_1 _ j).2.1]; show (stickI P x (nI m) P.1.1).1.2.1 = _; rw [stickI_1]
    have hD : (passN (sendP (stickI P x (nI m) P.1.1) m) j).1.2.2.2 = P.1.2.2.2 := by rw [(passN_1 _ j).2.2]; show (stickI P x (nI m) P.1.1).1.2.2.2 = _; rw [stickI_1]
    refine li_4_3 68 dX4_ends_67 rfl ?_
    refine v_if_le 82 71 dX4_ends_68 rfl rfl (fun h68 => ?_) (fun h68 => ?_)
    · have hj2 : q - j = 0 := by
        rcases Nat.eq_zero_or_pos (q - j) with kz | kz
        · exact kz
        · exact absurd h68 (nI_nle kz (by omega))
      have hj3 : j = q := by omega
      subst hj3
      refine la_4_0 83 dX4_ends_82 rfl ?_
      refine vg_X4_16 rfl 86 dX4_ends_83 rfl ?_
      refine v_bipush (v := 54) 88 dX4_ends_86 rfl kb_54 ?_
      refine li_4_1 89 dX4_ends_88 rfl ?_
      refine v_iadd 90 dX4_ends_89 rfl ?_
      refine vmn_7 hM hb1 _ 91 dX4_ends_90 rfl (ixG 24 m) (by rw [hL]; exact hm) ?_
      refine v_iconst (v := 2) 92 dX4_ends_91 rfl ki_2 ?_
      refine v_icmp_ne 99 95 dX4_ends_92 rfl rfl (fun h92 => ?_) (fun h92 => ?_)
      · rw [if_neg h92] at hQ
        refine v_iconst (v := 0) 100 dX4_ends_99 rfl ki_0 ?_
        refine v_iret dX4_ends_100 rfl ?_
        exact hQ _ (hS.fr1 hF) hF.K
      · rw [if_pos h92] at hQ
        refine v_iconst (v := 1) 96 dX4_ends_95 rfl ki_1 ?_
        refine v_goto 100 dX4_ends_96 rfl ?_
        refine v_iret dX4_ends_100 rfl ?_
        exact hQ _ (hS.fr1 hF) hF.K
    · have hlt : j < q := by
        rcases Nat.lt_or_ge j q with kz | kz
        · exact kz
        · rw [show q - j = 0 by omega] at h68; exact absurd (by decide) h68
      refine la_4_0 72 dX4_ends_71 rfl ?_
      refine v_iconst (v := 1) 73 dX4_ends_72 rfl ki_1 ?_
      refine v_cVN1 76 dX4_ends_73 rfl fvX4_passOn fiX4_passOn ml_X4_144 (seX4) rfl ⟨(Nat.le_of_ble_eq_true rfl), (Nat.le_of_ble_eq_true rfl)⟩ (Nat.le_of_ble_eq_true rfl) (Nat.le_of_ble_eq_true rfl) (c_X4_passOn (l := 1) hM hb1 (by rw [hD]; exact hz) (fun u2 hM2 hF2 => ⟨rfl, ?_⟩)) rfl
      refine ic_4_3 rfl 79 dX4_ends_76 rfl ki_m1 rfl ?_
      rw [show nI (q - j) + -1 = nI (q - (j + 1)) from by rw [show q - j = (q - (j + 1)) + 1 by omega]; exact pk_m1 _]
      refine v_goto 67 dX4_ends_79 rfl ?_
      exact ih hlt _ hM2 (hF.tr hF2)
  have key : ∀ i, i ≤ P.1.1 → ∀ u, isM u 1 (stickI P x (nI m) i) → FrM 1 w u → V mX4_ends 6 [some (.ref 1), some (.int (nI m)), some (.int x), some (.int (nI i))] [] u Q := by
    refine up (P := fun i => ∀ u, isM u 1 (stickI P x (nI m) i) → FrM 1 w u → V mX4_ends 6 [some (.ref 1), some (.int (nI m)), some (.int x), some (.int (nI i))] [] u Q) (fun i hi ih => ?_)
    intro u hM hF
    have hn : (stickI P x (nI m) i).1.1 = P.1.1 := congrArg (fun p => p.1) (stickI_1 P x (nI m) i)
    have hL : (stickI P x (nI m) i).1.2.1 = P.1.2.1 := congrArg (fun p => p.2.1) (stickI_1 P x (nI m) i)
    refine li_4_3 7 dX4_ends_6 rfl ?_
    refine la_4_0 8 dX4_ends_7 rfl ?_
    refine vgm_stamps hM hb1 rfl 11 dX4_ends_8 rfl ?_
    rw [hn]
    refine v_icmp_ge 35 14 dX4_ends_11 rfl rfl (fun h11 => ?_) (fun h11 => ?_)
    · obtain rfl := ge_eq h11 hi (by omega)
      refine la_4_0 36 dX4_ends_35 rfl ?_
      refine v_iconst (v := 1) 37 dX4_ends_36 rfl ki_1 ?_
      refine li_4_1 38 dX4_ends_37 rfl ?_
      refine v_cVI2 41 dX4_ends_38 rfl fvX4_canSend fiX4_canSend ml_X4_160 (seX4) rfl ⟨(Nat.le_of_ble_eq_true rfl), (Nat.le_of_ble_eq_true rfl)⟩ (Nat.le_of_ble_eq_true rfl) (Nat.le_of_ble_eq_true rfl) (c_X4_canSend (l := 1) hM hb1 (fun s hs => by rw [stickI_2]; exact hkd s (by rw [← hn]; exact hs)) (fun q38 => ⟨_, rfl, ?_⟩) (fun q38 => ⟨_, rfl, ?_⟩)) rfl
      · refine v_if_ne 47 44 dX4_ends_41 rfl rfl (fun _ => ?_) (fun h => absurd h (by decide))
        refine la_4_0 48 dX4_ends_47 rfl ?_
        refine vg_X4_16 rfl 51 dX4_ends_48 rfl ?_
        refine v_bipush (v := 54) 53 dX4_ends_51 rfl kb_54 ?_
        refine li_4_1 54 dX4_ends_53 rfl ?_
        refine v_iadd 55 dX4_ends_54 rfl ?_
        refine v_iconst (v := 1) 56 dX4_ends_55 rfl ki_1 ?_
        refine vmw_7 hM hb1 _ 57 dX4_ends_56 rfl (ixG 24 m) (by rw [hL]; exact hm) (fun u1 hM1 hF1 => ?_)
        refine la_4_0 58 dX4_ends_57 rfl ?_
        refine vg_X4_16 rfl 61 dX4_ends_58 rfl ?_
        refine v_bipush (v := 20) 63 dX4_ends_61 rfl kb_20 ?_
        refine li_4_1 64 dX4_ends_63 rfl ?_
        refine v_iadd 65 dX4_ends_64 rfl ?_
        refine vmn_5 (l := 0) (hS.1.fr (by decide) (hF.tr hF1)) hb0 _ 66 dX4_ends_65 rfl (ixC 20 m) hm ?_
        rw [show P.2 5 m = nI (q - 0) from hq]
        refine si_4_3 rfl 67 dX4_ends_66 rfl rfl ?_
        exact key2 q38 0 (Nat.zero_le _) _ hM1 (hF.tr hF1)
      · refine v_if_ne 47 44 dX4_ends_41 rfl rfl (fun h => absurd rfl h) (fun _ => ?_)
        refine v_bipush (v := (-9)) 46 dX4_ends_44 rfl kb_m9 ?_
        refine v_iret dX4_ends_46 rfl ?_
        rw [show tryF P m x = -9 from ifP_pos q38] at hQ
        exact hQ _ (hS.fr1 hF) hF.K
    · have hlt := ge_lt h11 (by omega) (by omega)
      refine li_4_2 15 dX4_ends_14 rfl ?_
      refine li_4_3 16 dX4_ends_15 rfl ?_
      refine v_cSI2 19 dX4_ends_16 rfl fvX4_has fsX4_has ml_X4_71 ⟨(Nat.le_of_ble_eq_true rfl), (Nat.le_of_ble_eq_true rfl)⟩ (Nat.le_of_ble_eq_true rfl) (Nat.le_of_ble_eq_true rfl) (c_X4_has (fun q16 => ⟨_, rfl, ?_⟩) (fun q16 => ⟨_, rfl, ?_⟩)) rfl
      · refine v_if_eq 29 22 dX4_ends_19 rfl rfl (fun h => absurd h (by decide)) (fun _ => ?_)
        refine la_4_0 23 dX4_ends_22 rfl ?_
        refine v_iconst (v := 1) 24 dX4_ends_23 rfl ki_1 ?_
        refine li_4_3 25 dX4_ends_24 rfl ?_
        refine li_4_1 26 dX4_ends_25 rfl ?_
        refine v_cVN3 29 dX4_ends_26 rfl fvX4_stickOn fiX4_stickOn ml_X4_157 (seX4) rfl ⟨(Nat.le_of_ble_eq_true rfl), (Nat.le_of_ble_eq_true rfl)⟩ (Nat.le_of_ble_eq_true rfl) (Nat.le_of_ble_eq_true rfl) (c_X4_stickOn (l := 1) hM hb1 (by rw [hn]; exact hlt) (stickI_h P x (nI m) hh i i hlt) (fun u2 hM2 hF2 => ⟨rfl, ?_⟩)) rfl
        refine icn_4_3 rfl 32 dX4_ends_29 rfl rfl ?_
        refine v_goto 6 dX4_ends_32 rfl ?_
        exact ih hlt _ (by simp only [stickI, q16, reduceIte]; exact hM2) (hF.tr hF2)
      · refine v_if_eq 29 22 dX4_ends_19 rfl rfl (fun _ => ?_) (fun h => absurd rfl h)
        refine icn_4_3 rfl 32 dX4_ends_29 rfl rfl ?_
        refine v_goto 6 dX4_ends_32 rfl ?_
        exact ih hlt _ (by simp only [stickI, q16, reduceIte, Bool.false_eq_true]; exact hM) hF
  refine la_4_0 1 dX4_ends_0 rfl ?_
  refine v_cVN0 4 dX4_ends_1 rfl fvX4_layTrial fiX4_layTrial ml_X4_169 (seX4) rfl ⟨(Nat.le_of_ble_eq_true rfl), (Nat.le_of_ble_eq_true rfl)⟩ (Nat.le_of_ble_eq_true rfl) (Nat.le_of_ble_eq_true rfl) (c_X4_layTrial hS.1 (fun u1 hM1 hF1 => ⟨rfl, ?_⟩)) rfl
  refine v_iconst (v := 0) 5 dX4_ends_4 rfl ki_0 ?_
  refine si_4_3 rfl 6 dX4_ends_5 rfl rfl ?_
  exact key 0 (Nat.zero_le _) _ hM1 hF1

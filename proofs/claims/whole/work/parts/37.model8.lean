/-- a row laid over level 0 -/
theorem isM.over {w u : Wd} {P E : PT} (h : isM w 0 P) (hK : sameK P E) (h16 : u.1 16 = w.1 16) (h17 : u.1 17 = w.1 17) (h31 : u.2.2 31 = w.2.2 31) (h32 : u.2.2 32 = w.2.2 32) {f : Nat → Int32} {a : Nat} (hR : rowB f a E) (hv : ∀ j, j < 30 → u.2.2 33 (30 * 0 + j) = f (a + j)) : isM u 0 E := by
  obtain ⟨k1, k2, k3, k4⟩ := hK
  obtain ⟨a1, a2, a3, a4, a5, a6, a7⟩ := h
  exact ⟨by rw [h16, a1, k1], by rw [h17, a2, k2], hR.1, hR.2.1, hR.2.2.shift hR.1 hR.2.1 hv, fun s hs => by rw [← k1] at hs; rw [h31]; exact (a6 s hs).trans (k3 s hs), fun s hs => by rw [← k2] at hs; rw [h32]; exact (a7 s hs).trans (k4 s hs)⟩
set_option maxHeartbeats 4000000 in
set_option maxRecDepth 100000 in
theorem c_X4_undo {w : Wd} {P : PT} {T : TT} {A : AT} {U : Nat → Bool} {K : Nat → PT} {N : NT} {z : Int64} (hS : mS w P T A U K N z) (hA : ∀ i, i < A.1 → sameK P (A.2 i)) {Q : Option Value → Wd → Prop} (hQ : ∀ u, mS u (undoF P A).2.1 T (undoF P A).2.2 U K N z → FrK w u → Q (some (.int (undoF P A).1)) u) : V mX4_undo 0 [some (.ref 1), none] [] w Q := by
  obtain ⟨hM, a, ⟨b1, b2, q, b3, b4, b5⟩, c, d, e, f⟩ := hS
  have key : ¬ A.1 = 0 → ∀ i, i ≤ 30 → ∀ u, u.1 23 = nI (A.1 - 1) → u.1 24 = nI ((q + 13) % 14) → (∀ j, ¬ j = 23 → ¬ j = 24 → u.1 j = w.1 j) → u.2.1 = w.2.1 → (∀ r, ¬ r = 33 → u.2.2 r = w.2.2 r) → (∀ j, j < i → u.2.2 33 (30 * 0 + j) = w.2.2 38 (30 * ((q + 13) % 14) + j)) → V mX4_undo 36 [some (.ref 1), some (.int (nI i))] [] u Q := by
    intro hk
    refine up (P := fun i => ∀ u, u.1 23 = nI (A.1 - 1) → u.1 24 = nI ((q + 13) % 14) → (∀ j, ¬ j = 23 → ¬ j = 24 → u.1 j = w.1 j) → u.2.1 = w.2.1 → (∀ r, ¬ r = 33 → u.2.2 r = w.2.2 r) → (∀ j, j < i → u.2.2 33 (30 * 0 + j) = w.2.2 38 (30 * ((q + 13) % 14) + j)) → V mX4_undo 36 [some (.ref 1), some (.int (nI i))] [] u Q) (fun i hi ih => ?_)
    intro u e23 e24 e1' e2' e3' hv
    have hq13 : (q + 13) % 14 < 14 := Nat.mod_lt _ (by decide)
    refine li_2_1 37 dX4_undo_36 rfl ?_
    refine v_bipush (v := 30) 39 dX4_undo_37 rfl kb_30 ?_
    refine v_icmp_ge 68 42 dX4_undo_39 rfl rfl (fun h39 => ?_) (fun h39 => ?_)
    · obtain rfl := ge_eq (n := 30) h39 hi (by omega)
      refine la_2_0 69 dX4_undo_68 rfl ?_
      refine vg_X4_102 rfl 72 dX4_undo_69 rfl ?_
      rw [e23]
      refine v_iret dX4_undo_72 rfl ?_
      rw [show undoF P A = (nI (A.1 - 1), A.2 (A.1 - 1), (A.1 - 1, A.2)) from if_neg hk] at hQ
      have hrow := b5 (A.1 - 1) (by omega)
      rw [show (q + 14 - A.1 + (A.1 - 1)) % 14 = (q + 13) % 14 by omega] at hrow
      refine hQ _ ⟨hM.over (hA (A.1 - 1) (by omega)) (e1' 16 (by decide) (by decide)) (e1' 17 (by decide) (by decide)) (e3' 31 (by decide)) (e3' 32 (by decide)) hrow hv, ?_⟩ ⟨fun j hj => e1' j (by omega) (by omega), by rw [e2'], fun r hr => e3' r (by omega)⟩
      refine ⟨⟨(e1' 20 (by decide) (by decide)).trans a.1, a.2.1, by rw [e3' 37 (by decide)]; exact a.2.2⟩, ⟨e23, by show A.1 - 1 ≤ 14; omega, (q + 13) % 14, hq13, e24, fun j hj => ?_⟩, by unfold mUsed; rw [e3' 42 (by decide)]; exact c, by unfold mSlots; rw [e3' 43 (by decide)]; exact d, ⟨(e1' 25 (by decide) (by decide)).trans e.1, e.2.1, by rw [e3' 39 (by decide), e3' 40 (by decide), e3' 41 (by decide)]; exact e.2.2⟩, by rw [e2']; exact f⟩
      have hj' : j < A.1 - 1 := hj
      show rowB (u.2.2 38) (30 * (((q + 13) % 14 + 14 - (A.1 - 1) + j) % 14)) (A.2 j)
      rw [e3' 38 (by decide), show ((q + 13) % 14 + 14 - (A.1 - 1) + j) % 14 = (q + 14 - A.1 + j) % 14 by omega]
      exact b5 j (by omega)
    · have hlt := ge_lt (n := 30) h39 (by omega) (by omega)
      refine la_2_0 43 dX4_undo_42 rfl ?_
      refine vg_X4_16 rfl 46 dX4_undo_43 rfl ?_
      refine li_2_1 47 dX4_undo_46 rfl ?_
      refine la_2_0 48 dX4_undo_47 rfl ?_
      refine vg_X4_31 rfl 51 dX4_undo_48 rfl ?_
      refine v_bipush (v := 30) 53 dX4_undo_51 rfl kb_30 ?_
      refine la_2_0 54 dX4_undo_53 rfl ?_
      refine vg_X4_138 rfl 57 dX4_undo_54 rfl ?_
      rw [e24]
      refine v_imul 58 dX4_undo_57 rfl ?_
      refine li_2_1 59 dX4_undo_58 rfl ?_
      refine v_iadd 60 dX4_undo_59 rfl ?_
      refine vl_X4_row (30 * ((q + 13) % 14) + i) 61 dX4_undo_60 rfl (ixA _ i) (by omega) ?_
      refine vw_X4_now i 62 dX4_undo_61 rfl rfl (by omega) (vrel (fun u1 e1 F1 => ?_))
      refine icn_2_1 rfl 65 dX4_undo_62 rfl rfl ?_
      refine v_goto 36 dX4_undo_65 rfl ?_
      refine ih hlt _ (by rw [F1.1]; exact e23) (by rw [F1.1]; exact e24) (fun j h1 h2 => by rw [F1.1]; exact e1' j h1 h2) (by rw [F1.2.1]; exact e2') (fun r hr => (F1.2.2 r hr).trans (e3' r hr)) (fun j hj => ?_)
      rw [e1]
      by_cases ej : j = i
      · rw [if_pos (by omega), e3' 38 (by decide), ej]
      · rw [if_neg (by omega)]; exact hv j (by omega)
  refine la_2_0 1 dX4_undo_0 rfl ?_
  refine vg_X4_102 rfl 4 dX4_undo_1 rfl ?_
  rw [b1]
  refine v_if_ne 10 7 dX4_undo_4 rfl rfl (fun h4 => ?_) (fun h4 => ?_)
  · have hk : ¬ A.1 = 0 := fun kz => h4 (by rw [kz]; rfl)
    refine la_2_0 11 dX4_undo_10 rfl ?_
    refine v_dup 12 dX4_undo_11 rfl rfl ?_
    refine vg_X4_102 rfl 15 dX4_undo_12 rfl ?_
    refine v_iconst (v := 1) 16 dX4_undo_15 rfl ki_1 ?_
    refine v_isub 17 dX4_undo_16 rfl ?_
    rw [b1, show nI A.1 - 1 = nI (A.1 - 1) from pk_sub (b := 1) (by omega)]
    refine vs_X4_102 rfl 20 dX4_undo_17 rfl ?_
    refine la_2_0 21 dX4_undo_20 rfl ?_
    refine la_2_0 22 dX4_undo_21 rfl ?_
    refine vg_X4_138 rfl 25 dX4_undo_22 rfl ?_
    show V mX4_undo 25 _ [.int (w.1 24), _] _ _
    rw [b4]
    refine v_bipush (v := 13) 27 dX4_undo_25 rfl kb_13 ?_
    refine v_iadd 28 dX4_undo_27 rfl ?_
    refine v_bipush (v := 14) 30 dX4_undo_28 rfl kb_14 ?_
    refine v_irem 31 dX4_undo_30 rfl (by decide) ?_
    rw [show nI q + 13 - (nI q + 13) / 14 * 14 = nI ((q + 13) % 14) from by rw [show nI q + 13 = nI (q + 13) from nI_add q 13]; exact pk_rem (d := 14) (by omega) (by decide) (by decide)]
    refine vs_X4_138 rfl 34 dX4_undo_31 rfl ?_
    refine v_iconst (v := 0) 35 dX4_undo_34 rfl ki_0 ?_
    refine si_2_1 rfl 36 dX4_undo_35 rfl rfl ?_
    exact key hk 0 (Nat.zero_le _) _ rfl rfl (fun j h1 h2 => by simp [sI, upd, h1, h2]) rfl (fun _ _ => rfl) (fun j hj => absurd hj (Nat.not_lt_zero j))
  · have hk : A.1 = 0 := nI_inj (b := 0) (by omega) (by omega) h4
    refine v_bipush (v := (-3)) 9 dX4_undo_7 rfl kb_m3 ?_
    refine v_iret dX4_undo_9 rfl ?_
    rw [show undoF P A = (-3, P, A) from if_pos hk] at hQ
    exact hQ _ ⟨hM, a, ⟨b1, b2, q, b3, b4, b5⟩, c, d, e, f⟩ FrK.rf
theorem orB_bit (f : Nat → Bool) {n k : Nat} (hn : n ≤ 5) (hk : k < n) : bit (orB f n) k = f k := by
  have key : ∀ (f0 f1 f2 f3 f4 : Bool) (n k : Nat), n ≤ 5 → k < n → bit (orB (fun i => if i = 0 then f0 else if i = 1 then f1 else if i = 2 then f2 else if i = 3 then f3 else f4) n) k = (if k = 0 then f0 else if k = 1 then f1 else if k = 2 then f2 else if k = 3 then f3 else f4) := by
    intro f0 f1 f2 f3 f4 n k h1 h2
    have h3 : k < 5 := by omega
    have dec : ∀ n, n < 6 → ∀ k, k < 5 → k < n → ∀ f0 f1 f2 f3 f4 : Bool, bit (orB (fun i => if i = 0 then f0 else if i = 1 then f1 else if i = 2 then f2 else if i = 3 then f3 else f4) n) k = (if k = 0 then f0 else if k = 1 then f1 else if k = 2 then f2 else if k = 3 then f3 else f4) := by decide +kernel
    exact dec n (by omega) k h3 h2 f0 f1 f2 f3 f4
  have cong : ∀ (g : Nat → Bool) m, (∀ i, i < m → f i = g i) → orB f m = orB g m := by
    intro g m
    induction m with
    | zero => intro _; rfl
    | succ m ih => intro h; unfold orB; rw [ih (fun i hi => h i (by omega)), h m (by omega)]
  have e : ∀ i, i < 5 → f i = (if i = 0 then f 0 else if i = 1 then f 1 else if i = 2 then f 2 else if i = 3 then f 3 else f 4) := by
    intro i hi
    rcases (show i = 0 ∨ i = 1 ∨ i = 2 ∨ i = 3 ∨ i = 4 by omega) with rfl | rfl | rfl | rfl | rfl <;> rfl
  rw [cong _ n (fun i hi => e i (by omega)), key (f 0) (f 1) (f 2) (f 3) (f 4) n k hn hk]
  exact (e k (by omega)).symm
set_option maxHeartbeats 4000000 in
set_option maxRecDepth 100000 in
theorem c_X4_lives {w : Wd} {P : PT} {T : TT} {A : AT} {U : Nat → Bool} {K : Nat → PT} {N : NT} {z : Int64} (hS : mS w P T A U K N z) (hz : P.1.2.2.2 = 0 ∨ P.1.2.2.2 = 1) {i : Int32} {Q : Option Value → Wd → Prop} (hQ : ∀ u, mS u P T A U K N z → FrK w u → Q (some (.int (livesF P i))) u) : V mX4_lives 0 [some (.ref 1), some (.int i), none] [] w Q := by
  have b5 := hS.1.2.2.1
  have b4 := hS.1.2.2.2.1
  have key : ∀ k, k < P.1.1 → (∀ u, mS u P T A U K N z → FrK w u → Q (some (.int (liveG P k 0 100))) u) → ∀ j, j ≤ 100 → ∀ u, liveG P k 0 100 = liveG P k j (100 - j) → isM u 1 (passN P j) → FrM 1 w u → V mX4_lives 16 [some (.ref 1), some (.int (nI k)), some (.int (nI j))] [] u Q := by
    intro k hk hQ
    refine up (P := fun j => ∀ u, liveG P k 0 100 = liveG P k j (100 - j) → isM u 1 (passN P j) → FrM 1 w u → V mX4_lives 16 [some (.ref 1), some (.int (nI k)), some (.int (nI j))] [] u Q) (fun j hj ih => ?_)
    intro u hv hM hF
    have hn := (passN_1 P j).1
    have hd := (passN_1 P j).2.2
    refine li_3_2 17 dX4_lives_16 rfl ?_
    refine v_bipush (v := 100) 19 dX4_lives_17 rfl kb_100 ?_
    refine v_icmp_ge 47 22 dX4_lives_19 rfl rfl (fun h19 => ?_) (fun h19 => ?_)
    · obtain rfl := ge_eq (n := 100) h19 hj (by omega)
      refine v_bipush (v := (-9)) 49 dX4_lives_47 rfl kb_m9 ?_
      refine v_iret dX4_lives_49 rfl ?_
      rw [hv] at hQ
      exact hQ _ (hS.fr1 hF) hF.K
    · have hlt := ge_lt (n := 100) h19 (by omega) (by omega)
      have e : 100 - j = (100 - (j + 1)) + 1 := by omega
      refine la_3_0 23 dX4_lives_22 rfl ?_
      refine v_iconst (v := 1) 24 dX4_lives_23 rfl ki_1 ?_
      refine v_cVI1 27 dX4_lives_24 rfl fvX4_living fiX4_living ml_X4_115 (seX4) rfl ⟨(Nat.le_of_ble_eq_true rfl), (Nat.le_of_ble_eq_true rfl)⟩ (Nat.le_of_ble_eq_true rfl) (Nat.le_of_ble_eq_true rfl) (c_X4_living (l := 1) hM hb1 ⟨_, rfl, ?_⟩) rfl
      refine li_3_1 28 dX4_lives_27 rfl ?_
      refine v_cSI2 31 dX4_lives_28 rfl fvX4_has fsX4_has ml_X4_71 ⟨(Nat.le_of_ble_eq_true rfl), (Nat.le_of_ble_eq_true rfl)⟩ (Nat.le_of_ble_eq_true rfl) (Nat.le_of_ble_eq_true rfl) (c_X4_has (fun q28 => ⟨_, rfl, ?_⟩) (fun q28 => ⟨_, rfl, ?_⟩)) rfl
      · have e28 : alP (passN P j) k = true := (orB_bit (alP (passN P j)) (by omega) (by omega)).symm.trans q28
        refine v_if_ne 36 34 dX4_lives_31 rfl rfl (fun _ => ?_) (fun h => absurd h (by decide))
        refine la_3_0 37 dX4_lives_36 rfl ?_
        refine v_iconst (v := 1) 38 dX4_lives_37 rfl ki_1 ?_
        refine v_cVN1 41 dX4_lives_38 rfl fvX4_passOn fiX4_passOn ml_X4_144 (seX4) rfl ⟨(Nat.le_of_ble_eq_true rfl), (Nat.le_of_ble_eq_true rfl)⟩ (Nat.le_of_ble_eq_true rfl) (Nat.le_of_ble_eq_true rfl) (c_X4_passOn (l := 1) hM hb1 (by rw [hd]; exact hz) (fun u2 hM2 hF2 => ⟨rfl, ?_⟩)) rfl
        refine icn_3_2 rfl 44 dX4_lives_41 rfl rfl ?_
        refine v_goto 16 dX4_lives_44 rfl ?_
        exact ih hlt _ (by rw [hv, e, liveG, e28]; rfl) hM2 (hF.tr hF2)
      · have e28 : alP (passN P j) k = false := (orB_bit (alP (passN P j)) (by omega) (by omega)).symm.trans q28
        refine v_if_ne 36 34 dX4_lives_31 rfl rfl (fun h => absurd rfl h) (fun _ => ?_)
        refine li_3_2 35 dX4_lives_34 rfl ?_
        refine v_iret dX4_lives_35 rfl ?_
        rw [hv, e, liveG, e28] at hQ
        exact hQ _ (hS.fr1 hF) hF.K
  refine la_3_0 1 dX4_lives_0 rfl ?_
  refine li_3_1 2 dX4_lives_1 rfl ?_
  refine v_cVI1 5 dX4_lives_2 rfl fvX4_isStamp fiX4_isStamp ml_X4_128 (seX4) rfl ⟨(Nat.le_of_ble_eq_true rfl), (Nat.le_of_ble_eq_true rfl)⟩ (Nat.le_of_ble_eq_true rfl) (Nat.le_of_ble_eq_true rfl) (c_X4_isStamp hS.1 hb0 (fun q2 => ⟨_, rfl, ?_⟩) (fun q2 => ⟨_, rfl, ?_⟩)) rfl
  · obtain ⟨k, hk, rfl⟩ := q2
    refine v_if_ne 10 8 dX4_lives_5 rfl rfl (fun _ => ?_) (fun h => absurd h (by decide))
    refine la_3_0 11 dX4_lives_10 rfl ?_
    refine v_cVN0 14 dX4_lives_11 rfl fvX4_layTrial fiX4_layTrial ml_X4_169 (seX4) rfl ⟨(Nat.le_of_ble_eq_true rfl), (Nat.le_of_ble_eq_true rfl)⟩ (Nat.le_of_ble_eq_true rfl) (Nat.le_of_ble_eq_true rfl) (c_X4_layTrial hS.1 (fun u1 hM1 hF1 => ⟨rfl, ?_⟩)) rfl
    refine v_iconst (v := 0) 15 dX4_lives_14 rfl ki_0 ?_
    refine si_3_2 rfl 16 dX4_lives_15 rfl rfl ?_
    exact key k hk (by rw [show livesF P (nI k) = liveG P k 0 100 from by unfold livesF; rw [kk_nI (by omega)]; exact ifP_neg (fun q => q ⟨k, hk, rfl⟩)] at hQ; exact hQ) 0 (Nat.zero_le _) _ rfl hM1 hF1
  · refine v_if_ne 10 8 dX4_lives_5 rfl rfl (fun h => absurd rfl h) (fun _ => ?_)
    refine v_iconst (v := (-1)) 9 dX4_lives_8 rfl ki_m1 ?_
    refine v_iret dX4_lives_9 rfl ?_
    rw [show livesF P i = -1 from ifP_pos q2] at hQ
    exact hQ _ hS FrK.rf

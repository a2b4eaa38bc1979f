set_option maxHeartbeats 4000000 in
set_option maxRecDepth 100000 in
theorem c_X4_readText {w : Wd} {x : Nat → Int32} {n : Nat} (hn : n ≤ 48) (h20 : w.1 20 = nI n) (hx : ∀ j, j < n → w.2.2 37 j = x j) {Q : Option Value → Wd → Prop} (hQ : ∀ r s u, textR x n r s → (r = -9 → u.1 18 = nI s.2.2.2.2.1.1 ∧ u.1 19 = nI s.2.2.2.2.1.2.1 ∧ rdG u s.2.2.2.2) → FrT w u → Q (some (.int r)) u) : V mX4_readText 0 [some (.ref 1), none] [] w Q := by
  have keyF : ∀ u j k ns nl s, j ≤ n → textR x n (nI j) s → RD u x n k (nI j) ns nl → FrT w u → V mX4_readText 66 [some (.ref 1), none] [] u Q := by
    intro u j k ns nl s hj ht R hF
    have h9 : ¬ nI j = -9 := nm9 (by omega)
    refine la_2_0 67 dX4_readText_66 rfl ?_
    refine vg_X4_63 rfl 70 dX4_readText_67 rfl ?_
    rw [R.2.2.2.1]
    refine v_bipush (v := (-9)) 72 dX4_readText_70 rfl kb_m9 ?_
    refine v_icmp_ne 102 75 dX4_readText_72 rfl rfl (fun h72 => ?_) (fun h72 => ?_)
    · refine la_2_0 103 dX4_readText_102 rfl ?_
      refine vg_X4_63 rfl 106 dX4_readText_103 rfl ?_
      rw [R.2.2.2.1]
      refine v_iret dX4_readText_106 rfl ?_
      exact hQ _ s u ht (fun kz => absurd kz h9) hF
    · exact absurd h72 h9
  have keyG : ∀ d u j P, n - j = d → j ≤ n → reachR x j (1, 0, 0, 0, P) → RD u x n j (-9) P.1.1 P.1.2.1 → rdG u P → FrT w u → V mX4_readText 66 [some (.ref 1), none] [] u Q := by
    intro d
    induction d using Nat.strongRecOn with
    | ind d ih =>
      intro u j P hd hj hr R hG hF
      refine la_2_0 67 dX4_readText_66 rfl ?_
      refine vg_X4_63 rfl 70 dX4_readText_67 rfl ?_
      rw [R.2.2.2.1]
      refine v_bipush (v := (-9)) 72 dX4_readText_70 rfl kb_m9 ?_
      refine v_icmp_ne 102 75 dX4_readText_72 rfl rfl (fun h72 => ?_) (fun h72 => ?_)
      · exact absurd rfl h72
      · refine la_2_0 76 dX4_readText_75 rfl ?_
        refine vg_X4_66 rfl 79 dX4_readText_76 rfl ?_
        refine la_2_0 80 dX4_readText_79 rfl ?_
        refine vg_X4_60 rfl 83 dX4_readText_80 rfl ?_
        rw [R.2.2.1, R.1]
        refine v_icmp_ge 102 86 dX4_readText_83 rfl rfl (fun h83 => ?_) (fun h83 => ?_)
        · have ej := ge_eq h83 hj (by omega)
          subst ej
          refine la_2_0 103 dX4_readText_102 rfl ?_
          refine vg_X4_63 rfl 106 dX4_readText_103 rfl ?_
          rw [R.2.2.2.1]
          refine v_iret dX4_readText_106 rfl ?_
          exact hQ _ (1, 0, 0, 0, P) u (Or.inr (Or.inr ⟨hr, rfl, rfl⟩)) (fun _ => ⟨R.2.2.2.2.1, R.2.2.2.2.2, hG⟩) hF
        · have hlt := ge_lt h83 (by omega) (by omega)
          refine la_2_0 87 dX4_readText_86 rfl ?_
          refine la_2_0 88 dX4_readText_87 rfl ?_
          refine vg_X4_28 rfl 91 dX4_readText_88 rfl ?_
          refine la_2_0 92 dX4_readText_91 rfl ?_
          refine vg_X4_66 rfl 95 dX4_readText_92 rfl ?_
          rw [R.2.2.1]
          refine vl_X4_text j 96 dX4_readText_95 rfl rfl (by omega) ?_
          rw [R.2.1 j hlt]
          exact v_cVN1 99 dX4_readText_96 rfl fvX4_readPart fiX4_readPart ml_X4_85 (seX4) rfl ⟨(Nat.le_of_ble_eq_true rfl), (Nat.le_of_ble_eq_true rfl)⟩ (Nat.le_of_ble_eq_true rfl) (Nat.le_of_ble_eq_true rfl) (c_X4_readPart hn hlt hr R hG (fun u2 j2 P2 k1 k2 k3 k4 k5 k6 => ⟨rfl, v_goto 66 dX4_readText_99 rfl (ih (n - j2) (by omega) u2 j2 P2 rfl k2 k3 k4 k5 (hF.tr k6))⟩) (fun u2 j2 k2 ns nl s k3 k4 k5 k6 => ⟨rfl, v_goto 66 dX4_readText_99 rfl (keyF u2 j2 k2 ns nl s k3 k4 k5 (hF.tr k6))⟩)) rfl
  have keyZ : ∀ k, k ≤ 5 → ∀ u, (∀ s, s < k → u.2.2 35 s = 0) → RD u x n 0 (-9) 0 0 → FrT w u → V mX4_readText 23 [some (.ref 1), some (.int (nI k))] [] u Q := by
    refine up (P := fun k => ∀ u, (∀ s, s < k → u.2.2 35 s = 0) → RD u x n 0 (-9) 0 0 → FrT w u → V mX4_readText 23 [some (.ref 1), some (.int (nI k))] [] u Q) (fun k hk ih => ?_)
    intro u hz R hF
    refine li_2_1 24 dX4_readText_23 rfl ?_
    refine v_iconst (v := 5) 25 dX4_readText_24 rfl ki_5 ?_
    refine v_icmp_ge 41 28 dX4_readText_25 rfl rfl (fun h25 => ?_) (fun h25 => ?_)
    · have ek := ge_eq (n := 5) h25 hk (by omega)
      subst ek
      refine la_2_0 42 dX4_readText_41 rfl ?_
      refine vg_X4_60 rfl 45 dX4_readText_42 rfl ?_
      rw [R.1]
      refine v_if_eq 59 48 dX4_readText_45 rfl rfl (fun h45 => ?_) (fun h45 => ?_)
      · have en : n = 0 := nI_inj (b := 0) (by omega) (by decide) h45
        refine v_iconst (v := 0) 60 dX4_readText_59 rfl ki_0 ?_
        refine v_iret dX4_readText_60 rfl ?_
        exact hQ (nI 0) (0, 0, 0, 0, P0) u (Or.inr (Or.inl ⟨by rw [en]; rfl, (show ¬ 0 = 1 by decide), by rw [en]⟩)) (fun kz => absurd kz (nm9 (by decide))) hF
      · have en : ¬ n = 0 := fun kz => h45 (by rw [kz]; rfl)
        refine la_2_0 49 dX4_readText_48 rfl ?_
        refine vg_X4_28 rfl 52 dX4_readText_49 rfl ?_
        refine v_iconst (v := 0) 53 dX4_readText_52 rfl ki_0 ?_
        refine vl_X4_text 0 54 dX4_readText_53 rfl rfl (by decide) ?_
        rw [R.2.1 0 (by omega)]
        refine v_bipush (v := 65) 56 dX4_readText_54 rfl kb_65 ?_
        refine v_icmp_eq 61 59 dX4_readText_56 rfl rfl (fun h56 => ?_) (fun h56 => ?_)
        · refine la_2_0 62 dX4_readText_61 rfl ?_
          refine v_iconst (v := 1) 63 dX4_readText_62 rfl ki_1 ?_
          refine vs_X4_66 rfl 66 dX4_readText_63 rfl ?_
          refine fg_2_1 ?_
          refine vI (fun v1 a1 b1 c1 => ?_)
          exact keyG _ v1 1 P0 rfl (by omega) ⟨_, rfl, h56, rfl⟩ (R.iA (k := 1) a1 b1 c1) ⟨fun s hs => absurd hs (Nat.not_lt_zero s), fun s _ hs => by rw [c1]; exact hz s hs, fun s hs => absurd hs (Nat.not_lt_zero s)⟩ (hF.tr (FrT.ofI (j := 21) (by omega) b1 c1))
        · refine v_iconst (v := 0) 60 dX4_readText_59 rfl ki_0 ?_
          refine v_iret dX4_readText_60 rfl ?_
          exact hQ (nI 0) (0, 0, 0, 0, P0) u (Or.inl ⟨0, by omega, rfl, fun ⟨t, kt⟩ => h56 kt.1, rfl⟩) (fun kz => absurd kz (nm9 (by decide))) hF
    · have hlt := ge_lt (n := 5) h25 (by omega) (by omega)
      refine la_2_0 29 dX4_readText_28 rfl ?_
      refine vg_X4_22 rfl 32 dX4_readText_29 rfl ?_
      refine li_2_1 33 dX4_readText_32 rfl ?_
      refine v_iconst (v := 0) 34 dX4_readText_33 rfl ki_0 ?_
      refine vw_X4_readJoined k 35 dX4_readText_34 rfl rfl (by omega) (vrel (fun u1 e1 F1 => ?_))
      refine icn_2_1 rfl 38 dX4_readText_35 rfl rfl ?_
      refine v_goto 23 dX4_readText_38 rfl ?_
      exact ih hlt u1 (fun s hs => by
        rw [e1]
        by_cases q : s = k
        · rw [if_pos q]
        · rw [if_neg q]; exact hz s (by omega)) (R.fA (by decide) F1) (hF.tr (F1.T (by decide)))
  refine la_2_0 1 dX4_readText_0 rfl ?_
  refine v_iconst (v := 0) 2 dX4_readText_1 rfl ki_0 ?_
  refine vs_X4_66 rfl 5 dX4_readText_2 rfl ?_
  refine vI (fun v1 a1 b1 c1 => ?_)
  refine la_2_0 6 dX4_readText_5 rfl ?_
  refine v_bipush (v := (-9)) 8 dX4_readText_6 rfl kb_m9 ?_
  refine vs_X4_63 rfl 11 dX4_readText_8 rfl ?_
  refine vI (fun v2 a2 b2 c2 => ?_)
  refine la_2_0 12 dX4_readText_11 rfl ?_
  refine v_iconst (v := 0) 13 dX4_readText_12 rfl ki_0 ?_
  refine vs_X4_75 rfl 16 dX4_readText_13 rfl ?_
  refine vI (fun v3 a3 b3 c3 => ?_)
  refine la_2_0 17 dX4_readText_16 rfl ?_
  refine v_iconst (v := 0) 18 dX4_readText_17 rfl ki_0 ?_
  refine vs_X4_82 rfl 21 dX4_readText_18 rfl ?_
  refine vI (fun v4 a4 b4 c4 => ?_)
  refine v_iconst (v := 0) 22 dX4_readText_21 rfl ki_0 ?_
  refine si_2_1 rfl 23 dX4_readText_22 rfl rfl ?_
  have R1 : RD v4 x n 0 (-9) 0 0 := by
    refine ⟨?_, fun j hj => ?_, ?_, ?_, ?_, ?_⟩
    · rw [b4 20 (by decide), b3 20 (by decide), b2 20 (by decide), b1 20 (by decide)]; exact h20
    · rw [c4, c3, c2, c1]; exact hx j hj
    · rw [b4 21 (by decide), b3 21 (by decide), b2 21 (by decide)]; exact a1
    · rw [b4 22 (by decide), b3 22 (by decide)]; exact a2
    · rw [b4 18 (by decide)]; exact a3
    · exact a4
  have F : FrT w v4 := (((FrT.ofI (j := 21) (by omega) b1 c1).tr (FrT.ofI (j := 22) (by omega) b2 c2)).tr (FrT.ofI (j := 18) (by omega) b3 c3)).tr (FrT.ofI (j := 19) (by omega) b4 c4)
  exact keyZ 0 (Nat.zero_le _) v4 (fun s hs => absurd hs (Nat.not_lt_zero s)) R1 F
theorem FrT.K {w u : Wd} (h : FrT w u) : FrK w u := ⟨fun j hj => h.1 j (by omega) (by omega), by rw [h.2.1], fun r hr => h.2.2 r (by omega)⟩
theorem mS.frT {w u : Wd} {P : PT} {T : TT} {A : AT} {U : Nat → Bool} {K : Nat → PT} {N : NT} {z : Int64} (h : mS w P T A U K N z) (hF : FrT w u) : mS u P T A U K N z := by
  obtain ⟨hM, a, b, c, d, e, f⟩ := h
  have i1 : ∀ j, j < 18 ∨ 23 ≤ j ∨ j = 20 → u.1 j = w.1 j := fun j hj => hF.1 j (by omega) (by omega)
  have i2 : ∀ r, r < 34 ∨ 37 ≤ r → u.2.2 r = w.2.2 r := fun r hr => hF.2.2 r (by omega)
  obtain ⟨b1, b2, q, b3, b4, b5⟩ := b
  refine ⟨hM.mv (i1 16 (by omega)) (i1 17 (by omega)) (fun r h1 h2 => i2 r (by omega)), ?_, ?_, ?_, ?_, ?_, ?_⟩
  · exact ⟨(i1 20 (by omega)).trans a.1, a.2.1, by rw [i2 37 (by omega)]; exact a.2.2⟩
  · exact ⟨(i1 23 (by omega)).trans b1, b2, q, b3, (i1 24 (by omega)).trans b4, by rw [i2 38 (by omega)]; exact b5⟩
  · unfold mUsed; rw [i2 42 (by omega)]; exact c
  · unfold mSlots; rw [i2 43 (by omega)]; exact d
  · refine ⟨(i1 25 (by omega)).trans e.1, e.2.1, ?_⟩
    rw [i2 39 (by omega), i2 40 (by omega), i2 41 (by omega)]; exact e.2.2
  · rw [hF.2.1]; exact f
set_option maxHeartbeats 4000000 in
set_option maxRecDepth 100000 in
theorem c_X4_fault {w : Wd} {P : PT} {T : TT} {A : AT} {U : Nat → Bool} {K : Nat → PT} {N : NT} {z : Int64} (hS : mS w P T A U K N z) {Q : Option Value → Wd → Prop} (hQ : ∀ r s u, textR T.2 T.1 r s → mS u P T A U K N z → FrK w u → Q (some (.int r)) u) : V mX4_fault 0 [some (.ref 1)] [] w Q := by
  refine la_1_0 1 dX4_fault_0 rfl ?_
  refine v_cVI0 4 dX4_fault_1 rfl fvX4_readText fiX4_readText ml_X4_96 (seX4) rfl ⟨(Nat.le_of_ble_eq_true rfl), (Nat.le_of_ble_eq_true rfl)⟩ (Nat.le_of_ble_eq_true rfl) (Nat.le_of_ble_eq_true rfl) (c_X4_readText hS.2.1.2.1 hS.2.1.1 hS.2.1.2.2 (fun r s u1 ht hR hF1 => ⟨_, rfl, ?_⟩)) rfl
  refine v_iret dX4_fault_4 rfl ?_
  exact hQ r s u1 ht (hS.frT hF1) hF1.K
/-- what an album leaves as it was -/
def FrB (w u : Wd) : Prop := (∀ j, (j < 16 ∨ j = 20 ∨ 23 ≤ j) → u.1 j = w.1 j) ∧ u.2.1 = w.2.1 ∧ ∀ r, (r < 31 ∨ 37 ≤ r) → u.2.2 r = w.2.2 r
theorem FrB.tr {w u v : Wd} (h1 : FrB w u) (h2 : FrB u v) : FrB w v := ⟨fun j a => (h2.1 j a).trans (h1.1 j a), h2.2.1.trans h1.2.1, fun r h => (h2.2.2 r h).trans (h1.2.2 r h)⟩
theorem FrT.B {w u : Wd} (h : FrT w u) : FrB w u := ⟨fun j hj => h.1 j (by omega) (by omega), h.2.1, fun r hr => h.2.2 r (by omega)⟩
theorem FrA.B {q : Nat} {w u : Wd} (hq : 31 ≤ q ∧ q < 37) (h : FrA q w u) : FrB w u := ⟨fun j _ => by rw [h.1], h.2.1, fun r hr => h.2.2 r (fun e => by omega)⟩
theorem FrB.ofI {w u : Wd} {j : Nat} (hj : 16 ≤ j ∧ j < 18) (b : ∀ q, ¬ q = j → u.1 q = w.1 q) (c : u.2 = w.2) : FrB w u := ⟨fun q h1 => b q (fun e => by omega), by rw [c], fun r _ => by rw [c]⟩
def AB (u : Wd) (P : PT) : Prop := u.1 16 = nI P.1.1 ∧ u.1 17 = nI P.1.2.1 ∧ rdG u P
theorem AB.fA {w u : Wd} {P : PT} {r : Nat} (h : AB w P) (hr : r < 34) (hF : FrA r w u) : AB u P := by
  obtain ⟨a, b, c⟩ := h
  refine ⟨by rw [hF.1]; exact a, by rw [hF.1]; exact b, ?_⟩
  unfold rdG
  rw [hF.2.2 34 (by omega), hF.2.2 35 (by omega), hF.2.2 36 (by omega)]
  exact c
def ab1 (u : Wd) (P : PT) (i : Nat) : Prop := (∀ s, s < i → u.2.2 33 s = P.2 0 s ∧ u.2.2 33 (5 + s) = P.2 1 s ∧ u.2.2 31 s = P.2 2 s ∧ u.2.2 33 (10 + s) = P.2 3 s ∧ u.2.2 33 (15 + s) = -9) ∧ ∀ k, 20 ≤ k → k < 30 → u.2.2 33 k = 0
def ab2 (u : Wd) (P : PT) (i : Nat) : Prop := (∀ s, s < P.1.1 → u.2.2 33 s = P.2 0 s ∧ u.2.2 33 (5 + s) = P.2 1 s ∧ u.2.2 31 s = P.2 2 s ∧ u.2.2 33 (10 + s) = P.2 3 s ∧ u.2.2 33 (15 + s) = -9) ∧ (∀ k, 24 ≤ k → k < 30 → u.2.2 33 k = 0) ∧ ∀ m, m < i → u.2.2 33 (20 + m) = P.2 5 m ∧ u.2.2 32 m = P.2 6 m
set_option maxHeartbeats 4000000 in
set_option maxRecDepth 100000 in
theorem c_X4_album {w : Wd} {P : PT} {T : TT} {A : AT} {U : Nat → Bool} {K : Nat → PT} {N : NT} {z : Int64} (hS : mS w P T A U K N z) {Q : Option Value → Wd → Prop} (hQ : ∀ r s u, textR T.2 T.1 r s → ¬ r = -9 → mS u P T A U K N z → FrK w u → Q (some (.int (-3))) u) (hR : ∀ s u, textR T.2 T.1 (-9) s → mS u s.2.2.2.2 T (0, A.2) (fun _ => false) K N z → FrK w u → Q (some (.int (10 * nI s.2.2.2.2.1.1 + nI s.2.2.2.2.1.2.1))) u) : V mX4_album 0 [some (.ref 1), none] [] w Q := by
  have key3 : ∀ s, textR T.2 T.1 (-9) s → ∀ i, i ≤ s.2.2.2.2.1.2.1 → ∀ u, AB u s.2.2.2.2 → ab2 u s.2.2.2.2 i → FrB w u → V mX4_album 144 [some (.ref 1), some (.int (nI i))] [] u Q := by
    intro s ht
    obtain ⟨P2, eP⟩ : ∃ P2, P2 = s.2.2.2.2 := ⟨_, rfl⟩
    have hr2 : reachR T.2 T.1 s := by
      rcases ht with ⟨i, hi, _, _, e⟩ | ⟨_, _, e⟩ | ⟨h, _, _⟩
      · exact absurd e.symm (nm9 (by have := hS.2.1.2.1; omega))
      · exact absurd e.symm (nm9 (by have := hS.2.1.2.1; omega))
      · exact h
    have hd := (reach_dr hr2).dr
    rw [← eP] at hd
    have hR2 := hR s
    rw [← eP] at hR2
    rw [← eP]
    have b5 := hd.1.1
    have b4 := hd.1.2.1
    refine up (P := fun i => ∀ u, AB u P2 → ab2 u P2 i → FrB w u → V mX4_album 144 [some (.ref 1), some (.int (nI i))] [] u Q) (fun i hi ih => ?_)
    intro u hA hB hF
    refine li_2_1 145 dX4_album_144 rfl ?_
    refine la_2_0 146 dX4_album_145 rfl ?_
    refine vg_X4_99 rfl 149 dX4_album_146 rfl ?_
    rw [hA.2.1]
    refine v_icmp_ge 191 152 dX4_album_149 rfl rfl (fun h149 => ?_) (fun h149 => ?_)
    · have ei := ge_eq h149 hi (by omega)
      subst ei
      refine la_2_0 192 dX4_album_191 rfl ?_
      refine v_iconst (v := 0) 193 dX4_album_192 rfl ki_0 ?_
      refine vs_X4_102 rfl 196 dX4_album_193 rfl ?_
      refine vI (fun v1 a1 b1 c1 => ?_)
      refine la_2_0 197 dX4_album_196 rfl ?_
      refine vg_X4_43 rfl 200 dX4_album_197 rfl ?_
      refine v_iconst (v := 0) 201 dX4_album_200 rfl ki_0 ?_
      refine v_iconst (v := 0) 202 dX4_album_201 rfl ki_0 ?_
      refine vw_X4_isKept 0 203 dX4_album_202 rfl rfl (by decide) (Or.inl rfl) (vrel (fun u1 e1 F1 => ?_))
      refine la_2_0 204 dX4_album_203 rfl ?_
      refine vg_X4_43 rfl 207 dX4_album_204 rfl ?_
      refine v_iconst (v := 1) 208 dX4_album_207 rfl ki_1 ?_
      refine v_iconst (v := 0) 209 dX4_album_208 rfl ki_0 ?_
      refine vw_X4_isKept 1 210 dX4_album_209 rfl rfl (by decide) (Or.inl rfl) (vrel (fun u2 e2 F2 => ?_))
      refine v_bipush (v := 10) 212 dX4_album_210 rfl kb_10 ?_
      refine la_2_0 213 dX4_album_212 rfl ?_
      refine vg_X4_50 rfl 216 dX4_album_213 rfl ?_
      rw [show u2.1 16 = nI P2.1.1 from by rw [F2.1, F1.1, b1 16 (by decide)]; exact hA.1]
      refine v_imul 217 dX4_album_216 rfl ?_
      refine la_2_0 218 dX4_album_217 rfl ?_
      refine vg_X4_99 rfl 221 dX4_album_218 rfl ?_
      rw [show u2.1 17 = nI P2.1.2.1 from by rw [F2.1, F1.1, b1 17 (by decide)]; exact hA.2.1]
      refine v_iadd 222 dX4_album_221 rfl ?_
      refine v_iret dX4_album_222 rfl ?_
      obtain ⟨hM, ta, tb, tc, td, te, tf⟩ := hS
      obtain ⟨tb1, tb2, q, tb3, tb4, tb5⟩ := tb
      have G1 : ∀ j, (j < 16 ∨ j = 20 ∨ 24 ≤ j) → u2.1 j = w.1 j := fun j hj => by rw [F2.1, F1.1, b1 j (by omega)]; exact hF.1 j (by omega)
      have G2 : ∀ r, (r < 31 ∨ (37 ≤ r ∧ ¬ r = 42)) → u2.2.2 r = w.2.2 r := fun r hr => by rw [F2.2.2 r (by omega), F1.2.2 r (by omega), c1]; exact hF.2.2 r (by omega)
      have G3 : ∀ r, 31 ≤ r → r < 37 → u2.2.2 r = u.2.2 r := fun r h1 h2 => by rw [F2.2.2 r (by omega), F1.2.2 r (by omega), c1]
      have G4 : u2.2.1 = w.2.1 := by rw [F2.2.1, F1.2.1, c1]; exact hF.2.1
      have I16 : u2.1 16 = nI P2.1.1 := by rw [F2.1, F1.1, b1 16 (by decide)]; exact hA.1
      have I17 : u2.1 17 = nI P2.1.2.1 := by rw [F2.1, F1.1, b1 17 (by decide)]; exact hA.2.1
      have I23 : u2.1 23 = 0 := by rw [F2.1, F1.1]; exact a1
      refine hR2 u2 ht ⟨⟨I16, I17, b5, b4, ⟨?_, ?_, fun s hs => ?_, fun m hm => ?_⟩, fun s hs => ?_, fun m hm => ?_⟩, ?_, ?_, ?_, ?_, ?_, ?_⟩ ?_
      · rw [G3 33 (by decide) (by decide), hB.2.1 29 (by decide) (by decide)]; exact hd.2.1.symm
      · rw [G3 33 (by decide) (by decide), hB.2.1 28 (by decide) (by decide)]; exact hd.2.2.1.symm
      · rw [G3 33 (by decide) (by decide), Nat.mul_zero, Nat.zero_add, Nat.zero_add, Nat.zero_add, Nat.zero_add]
        obtain ⟨q0, q1, q2, q3, q4⟩ := hB.1 s hs
        exact ⟨q0, q1, q3, q4.trans (hd.2.2.2.1 s hs).symm⟩
      · rw [G3 33 (by decide) (by decide), Nat.mul_zero, Nat.zero_add, Nat.zero_add]
        exact ⟨(hB.2.2 m hm).1, (hB.2.1 (24 + m) (by omega) (by omega)).trans (hd.2.2.2.2 m hm).symm⟩
      · rw [G3 31 (by decide) (by decide)]; exact (hB.1 s hs).2.2.1
      · rw [G3 32 (by decide) (by decide)]; exact (hB.2.2 m hm).2
      · exact ⟨(G1 20 (by omega)).trans ta.1, ta.2.1, by rw [G2 37 (by omega)]; exact ta.2.2⟩
      · exact ⟨I23, Nat.zero_le _, q, tb3, (G1 24 (by omega)).trans tb4, fun i hi => absurd hi (Nat.not_lt_zero i)⟩
      · intro i hi
        show u2.2.2 42 i = 0
        rw [e2]
        by_cases k1 : i = 1
        · rw [if_pos k1]
        · rw [if_neg k1, e1, if_pos (by omega)]
      · intro i hi hu; cases hu
      · refine ⟨(G1 25 (by omega)).trans te.1, te.2.1, ?_⟩
        rw [G2 39 (by omega), G2 40 (by omega), G2 41 (by omega)]; exact te.2.2
      · rw [G4]; exact tf
      · exact ⟨fun j hj => G1 j (by omega), by rw [G4], fun r hr => G2 r (by omega)⟩
    · have hlt := ge_lt h149 (by omega) (by omega)
      refine la_2_0 153 dX4_album_152 rfl ?_
      refine vg_X4_16 rfl 156 dX4_album_153 rfl ?_
      refine v_bipush (v := 20) 158 dX4_album_156 rfl kb_20 ?_
      refine li_2_1 159 dX4_album_158 rfl ?_
      refine v_iadd 160 dX4_album_159 rfl ?_
      refine la_2_0 161 dX4_album_160 rfl ?_
      refine vg_X4_25 rfl 164 dX4_album_161 rfl ?_
      refine v_iconst (v := 2) 165 dX4_album_164 rfl ki_2 ?_
      refine li_2_1 166 dX4_album_165 rfl ?_
      refine v_imul 167 dX4_album_166 rfl ?_
      refine vl_X4_readLetter (2 * i) 168 dX4_album_167 rfl (pk_mul 2 _) (by omega) ?_
      rw [(hA.2.2.2.2 i hlt).1]
      refine vw_X4_now (20 + i) 169 dX4_album_168 rfl (nI_add 20 _) (by omega) (vrel (fun u1 e1 F1 => ?_))
      have A1 := hA.fA (by decide) F1
      refine la_2_0 170 dX4_album_169 rfl ?_
      refine vg_X4_13 rfl 173 dX4_album_170 rfl ?_
      refine li_2_1 174 dX4_album_173 rfl ?_
      refine la_2_0 175 dX4_album_174 rfl ?_
      refine vg_X4_25 rfl 178 dX4_album_175 rfl ?_
      refine v_iconst (v := 2) 179 dX4_album_178 rfl ki_2 ?_
      refine li_2_1 180 dX4_album_179 rfl ?_
      refine v_imul 181 dX4_album_180 rfl ?_
      refine v_iconst (v := 1) 182 dX4_album_181 rfl ki_1 ?_
      refine v_iadd 183 dX4_album_182 rfl ?_
      refine vl_X4_readLetter (2 * i + 1) 184 dX4_album_183 rfl (by rw [show (2 : Int32) * nI i = nI (2 * i) from pk_mul 2 _]; exact nI_1 _) (by omega) ?_
      rw [(A1.2.2.2.2 i hlt).2]
      refine vw_X4_cost i 185 dX4_album_184 rfl rfl (by omega) (vrel (fun u2 e2 F2 => ?_))
      refine icn_2_1 rfl 188 dX4_album_185 rfl rfl ?_
      refine v_goto 144 dX4_album_188 rfl ?_
      refine ih hlt u2 (A1.fA (by decide) F2) ⟨fun s hs => ?_, fun k h1 h2 => ?_, fun m hm => ?_⟩ (hF.tr ((F1.B (by decide)).tr (F2.B (by decide))))
      · rw [F2.2.2 33 (by decide), F2.2.2 31 (by decide), e1, e1, e1, e1, F1.2.2 31 (by decide), if_neg (by omega), if_neg (by omega), if_neg (by omega), if_neg (by omega)]; exact hB.1 s hs
      · rw [F2.2.2 33 (by decide), e1, if_neg (by omega)]; exact hB.2.1 k h1 h2
      · rw [F2.2.2 33 (by decide), e1, e2, F1.2.2 32 (by decide)]
        by_cases q : m = i
        · subst q; rw [if_pos rfl, if_pos rfl]; exact ⟨rfl, rfl⟩
        · rw [if_neg (by omega), if_neg q]; exact hB.2.2 m (by omega)
  have key2 : ∀ s, textR T.2 T.1 (-9) s → ∀ i, i ≤ s.2.2.2.2.1.1 → ∀ u, AB u s.2.2.2.2 → ab1 u s.2.2.2.2 i → FrB w u → V mX4_album 51 [some (.ref 1), some (.int (nI i))] [] u Q := by
    intro s ht
    have k3 := key3 s ht
    obtain ⟨P2, eP⟩ : ∃ P2, P2 = s.2.2.2.2 := ⟨_, rfl⟩
    have hr2 : reachR T.2 T.1 s := by
      rcases ht with ⟨i, hi, _, _, e⟩ | ⟨_, _, e⟩ | ⟨h, _, _⟩
      · exact absurd e.symm (nm9 (by have := hS.2.1.2.1; omega))
      · exact absurd e.symm (nm9 (by have := hS.2.1.2.1; omega))
      · exact h
    have hd := (reach_dr hr2).dr
    rw [← eP] at hd k3
    rw [← eP]
    have b5 := hd.1.1
    have b4 := hd.1.2.1
    refine up (P := fun i => ∀ u, AB u P2 → ab1 u P2 i → FrB w u → V mX4_album 51 [some (.ref 1), some (.int (nI i))] [] u Q) (fun i hi ih => ?_)
    intro u hA hB hF
    refine li_2_1 52 dX4_album_51 rfl ?_
    refine la_2_0 53 dX4_album_52 rfl ?_
    refine vg_X4_50 rfl 56 dX4_album_53 rfl ?_
    rw [hA.1]
    refine v_icmp_ge 142 59 dX4_album_56 rfl rfl (fun h56 => ?_) (fun h56 => ?_)
    · have ei := ge_eq h56 hi (by omega)
      subst ei
      refine v_iconst (v := 0) 143 dX4_album_142 rfl ki_0 ?_
      refine si_2_1 rfl 144 dX4_album_143 rfl rfl ?_
      exact k3 0 (Nat.zero_le _) u hA ⟨hB.1, fun k h1 h2 => hB.2 k (by omega) h2, fun m hm => absurd hm (Nat.not_lt_zero m)⟩ hF
    · have hlt := ge_lt h56 (by omega) (by omega)
      refine la_2_0 60 dX4_album_59 rfl ?_
      refine vg_X4_16 rfl 63 dX4_album_60 rfl ?_
      refine li_2_1 64 dX4_album_63 rfl ?_
      refine v_bipush (v := 10) 66 dX4_album_64 rfl kb_10 ?_
      refine la_2_0 67 dX4_album_66 rfl ?_
      refine vg_X4_19 rfl 70 dX4_album_67 rfl ?_
      refine v_iconst (v := 3) 71 dX4_album_70 rfl ki_3 ?_
      refine li_2_1 72 dX4_album_71 rfl ?_
      refine v_imul 73 dX4_album_72 rfl ?_
      refine vl_X4_readStamp (3 * i) 74 dX4_album_73 rfl (pk_mul 3 _) (by omega) ?_
      refine v_imul 75 dX4_album_74 rfl ?_
      rw [(hA.2.2.1 i hlt).1]
      refine vw_X4_now i 76 dX4_album_75 rfl rfl (by omega) (vrel (fun u1 e1 F1 => ?_))
      have A1 := hA.fA (by decide) F1
      refine la_2_0 77 dX4_album_76 rfl ?_
      refine vg_X4_16 rfl 80 dX4_album_77 rfl ?_
      refine v_iconst (v := 5) 81 dX4_album_80 rfl ki_5 ?_
      refine li_2_1 82 dX4_album_81 rfl ?_
      refine v_iadd 83 dX4_album_82 rfl ?_
      refine la_2_0 84 dX4_album_83 rfl ?_
      refine vg_X4_19 rfl 87 dX4_album_84 rfl ?_
      refine v_iconst (v := 3) 88 dX4_album_87 rfl ki_3 ?_
      refine li_2_1 89 dX4_album_88 rfl ?_
      refine v_imul 90 dX4_album_89 rfl ?_
      refine v_iconst (v := 1) 91 dX4_album_90 rfl ki_1 ?_
      refine v_iadd 92 dX4_album_91 rfl ?_
      refine vl_X4_readStamp (3 * i + 1) 93 dX4_album_92 rfl (by rw [show (3 : Int32) * nI i = nI (3 * i) from pk_mul 3 _]; exact nI_add _ 1) (by omega) ?_
      rw [(A1.2.2.1 i hlt).2.1]
      refine vw_X4_now (5 + i) 94 dX4_album_93 rfl (nI_add 5 _) (by omega) (vrel (fun u2 e2 F2 => ?_))
      have A2 := A1.fA (by decide) F2
      refine la_2_0 95 dX4_album_94 rfl ?_
      refine vg_X4_7 rfl 98 dX4_album_95 rfl ?_
      refine li_2_1 99 dX4_album_98 rfl ?_
      refine la_2_0 100 dX4_album_99 rfl ?_
      refine vg_X4_19 rfl 103 dX4_album_100 rfl ?_
      refine v_iconst (v := 3) 104 dX4_album_103 rfl ki_3 ?_
      refine li_2_1 105 dX4_album_104 rfl ?_
      refine v_imul 106 dX4_album_105 rfl ?_
      refine v_iconst (v := 2) 107 dX4_album_106 rfl ki_2 ?_
      refine v_iadd 108 dX4_album_107 rfl ?_
      refine vl_X4_readStamp (3 * i + 2) 109 dX4_album_108 rfl (by rw [show (3 : Int32) * nI i = nI (3 * i) from pk_mul 3 _]; exact nI_add _ 2) (by omega) ?_
      rw [(A2.2.2.1 i hlt).2.2.1]
      refine vw_X4_kind i 110 dX4_album_109 rfl rfl (by omega) (vrel (fun u3 e3 F3 => ?_))
      have A3 := A2.fA (by decide) F3
      refine la_2_0 111 dX4_album_110 rfl ?_
      refine vg_X4_16 rfl 114 dX4_album_111 rfl ?_
      refine v_bipush (v := 10) 116 dX4_album_114 rfl kb_10 ?_
      refine li_2_1 117 dX4_album_116 rfl ?_
      refine v_iadd 118 dX4_album_117 rfl ?_
      refine la_2_0 119 dX4_album_118 rfl ?_
      refine vg_X4_22 rfl 122 dX4_album_119 rfl ?_
      refine li_2_1 123 dX4_album_122 rfl ?_
      refine vl_X4_readJoined i 124 dX4_album_123 rfl rfl (by omega) ?_
      rw [(A3.2.2.1 i hlt).2.2.2]
      refine vw_X4_now (10 + i) 125 dX4_album_124 rfl (nI_add 10 _) (by omega) (vrel (fun u4 e4 F4 => ?_))
      have A4 := A3.fA (by decide) F4
      refine la_2_0 126 dX4_album_125 rfl ?_
      refine vg_X4_16 rfl 129 dX4_album_126 rfl ?_
      refine v_bipush (v := 15) 131 dX4_album_129 rfl kb_15 ?_
      refine li_2_1 132 dX4_album_131 rfl ?_
      refine v_iadd 133 dX4_album_132 rfl ?_
      refine v_bipush (v := (-9)) 135 dX4_album_133 rfl kb_m9 ?_
      refine vw_X4_now (15 + i) 136 dX4_album_135 rfl (nI_add 15 _) (by omega) (vrel (fun u5 e5 F5 => ?_))
      refine icn_2_1 rfl 139 dX4_album_136 rfl rfl ?_
      refine v_goto 51 dX4_album_139 rfl ?_
      have E33 : ∀ k, u5.2.2 33 k = if k = 15 + i then -9 else if k = 10 + i then P2.2 3 i else if k = 5 + i then P2.2 1 i else if k = i then P2.2 0 i else u.2.2 33 k := fun k => by rw [e5, e4, F3.2.2 33 (by decide), e2, e1]
      have E31 : ∀ k, u5.2.2 31 k = if k = i then P2.2 2 i else u.2.2 31 k := fun k => by rw [F5.2.2 31 (by decide), F4.2.2 31 (by decide), e3, F2.2.2 31 (by decide), F1.2.2 31 (by decide)]
      refine ih hlt u5 (A4.fA (by decide) F5) ⟨fun s hs => ?_, fun k h1 h2 => ?_⟩ (hF.tr ((F1.B (by decide)).tr ((F2.B (by decide)).tr ((F3.B (by decide)).tr ((F4.B (by decide)).tr (F5.B (by decide)))))))
      · by_cases q : s = i
        · subst q
          have z0 : u5.2.2 33 s = P2.2 0 s := by rw [E33, if_neg (by omega), if_neg (by omega), if_neg (by omega), if_pos rfl]
          have z1 : u5.2.2 33 (5 + s) = P2.2 1 s := by rw [E33, if_neg (by omega), if_neg (by omega), if_pos rfl]
          have z3 : u5.2.2 33 (10 + s) = P2.2 3 s := by rw [E33, if_neg (by omega), if_pos rfl]
          have z4 : u5.2.2 33 (15 + s) = -9 := by rw [E33, if_pos rfl]
          have z2 : u5.2.2 31 s = P2.2 2 s := by rw [E31, if_pos rfl]
          exact ⟨z0, z1, z2, z3, z4⟩
        · obtain ⟨y0, y1, y2, y3, y4⟩ := hB.1 s (by omega)
          have z0 : u5.2.2 33 s = P2.2 0 s := by rw [E33, if_neg (by omega), if_neg (by omega), if_neg (by omega), if_neg (by omega)]; exact y0
          have z1 : u5.2.2 33 (5 + s) = P2.2 1 s := by rw [E33, if_neg (by omega), if_neg (by omega), if_neg (by omega), if_neg (by omega)]; exact y1
          have z3 : u5.2.2 33 (10 + s) = P2.2 3 s := by rw [E33, if_neg (by omega), if_neg (by omega), if_neg (by omega), if_neg (by omega)]; exact y3
          have z4 : u5.2.2 33 (15 + s) = -9 := by rw [E33, if_neg (by omega), if_neg (by omega), if_neg (by omega), if_neg (by omega)]; exact y4
          have z2 : u5.2.2 31 s = P2.2 2 s := by rw [E31, if_neg q]; exact y2
          exact ⟨z0, z1, z2, z3, z4⟩
      · rw [E33, if_neg (by omega), if_neg (by omega), if_neg (by omega), if_neg (by omega)]; exact hB.2 k h1 h2
  have key1 : ∀ s, textR T.2 T.1 (-9) s → ∀ i, i ≤ 30 → ∀ u, AB u s.2.2.2.2 → (∀ k, k < i → u.2.2 33 k = 0) → FrB w u → V mX4_album 30 [some (.ref 1), some (.int (nI i))] [] u Q := by
    intro s ht
    refine up (P := fun i => ∀ u, AB u s.2.2.2.2 → (∀ k, k < i → u.2.2 33 k = 0) → FrB w u → V mX4_album 30 [some (.ref 1), some (.int (nI i))] [] u Q) (fun i hi ih => ?_)
    intro u hA hB hF
    refine li_2_1 31 dX4_album_30 rfl ?_
    refine v_bipush (v := 30) 33 dX4_album_31 rfl kb_30 ?_
    refine v_icmp_ge 49 36 dX4_album_33 rfl rfl (fun h33 => ?_) (fun h33 => ?_)
    · have ei := ge_eq (n := 30) h33 hi (by omega)
      subst ei
      refine v_iconst (v := 0) 50 dX4_album_49 rfl ki_0 ?_
      refine si_2_1 rfl 51 dX4_album_50 rfl rfl ?_
      exact key2 s ht 0 (Nat.zero_le _) u hA ⟨fun k hk => absurd hk (Nat.not_lt_zero k), fun k _ h2 => hB k h2⟩ hF
    · have hlt := ge_lt (n := 30) h33 (by omega) (by omega)
      refine la_2_0 37 dX4_album_36 rfl ?_
      refine vg_X4_16 rfl 40 dX4_album_37 rfl ?_
      refine li_2_1 41 dX4_album_40 rfl ?_
      refine v_iconst (v := 0) 42 dX4_album_41 rfl ki_0 ?_
      refine vw_X4_now i 43 dX4_album_42 rfl rfl (by omega) (vrel (fun u1 e1 F1 => ?_))
      refine icn_2_1 rfl 46 dX4_album_43 rfl rfl ?_
      refine v_goto 30 dX4_album_46 rfl ?_
      exact ih hlt u1 (hA.fA (by decide) F1) (fun k hk => by
        rw [e1]
        by_cases q : k = i
        · rw [if_pos q]
        · rw [if_neg q]; exact hB k (by omega)) (hF.tr (F1.B (by decide)))
  refine la_2_0 1 dX4_album_0 rfl ?_
  refine v_cVI0 4 dX4_album_1 rfl fvX4_readText fiX4_readText ml_X4_96 (seX4) rfl ⟨(Nat.le_of_ble_eq_true rfl), (Nat.le_of_ble_eq_true rfl)⟩ (Nat.le_of_ble_eq_true rfl) (Nat.le_of_ble_eq_true rfl) (c_X4_readText hS.2.1.2.1 hS.2.1.1 hS.2.1.2.2 (fun r s u1 ht hR1 hF1 => ⟨_, rfl, ?_⟩)) rfl
  refine v_bipush (v := (-9)) 6 dX4_album_4 rfl kb_m9 ?_
  refine v_icmp_eq 12 9 dX4_album_6 rfl rfl (fun h6 => ?_) (fun h6 => ?_)
  · subst h6
    obtain ⟨k18, k19, kG⟩ := hR1 rfl
    refine la_2_0 13 dX4_album_12 rfl ?_
    refine la_2_0 14 dX4_album_13 rfl ?_
    refine vg_X4_75 rfl 17 dX4_album_14 rfl ?_
    rw [k18]
    refine vs_X4_50 rfl 20 dX4_album_17 rfl ?_
    refine vI (fun v1 a1 b1 c1 => ?_)
    refine la_2_0 21 dX4_album_20 rfl ?_
    refine la_2_0 22 dX4_album_21 rfl ?_
    refine vg_X4_82 rfl 25 dX4_album_22 rfl ?_
    rw [show v1.1 19 = nI s.2.2.2.2.1.2.1 from by rw [b1 19 (by decide)]; exact k19]
    refine vs_X4_99 rfl 28 dX4_album_25 rfl ?_
    refine vI (fun v2 a2 b2 c2 => ?_)
    refine v_iconst (v := 0) 29 dX4_album_28 rfl ki_0 ?_
    refine si_2_1 rfl 30 dX4_album_29 rfl rfl ?_
    refine key1 s ht 0 (Nat.zero_le _) v2 ⟨by rw [b2 16 (by decide)]; exact a1, a2, ?_⟩ (fun k hk => absurd hk (Nat.not_lt_zero k)) (hF1.B.tr ((FrB.ofI (j := 16) (by omega) b1 c1).tr (FrB.ofI (j := 17) (by omega) b2 c2)))
    unfold rdG
    rw [c2, c1]
    exact kG
  · refine v_bipush (v := (-3)) 11 dX4_album_9 rfl kb_m3 ?_
    refine v_iret dX4_album_11 rfl ?_
    exact hQ r s u1 ht h6 (hS.frT hF1) hF1.K

theorem stepR_det {s t t2 : RT} {c : Int32} (h5 : s.2.2.2.2.1.1 ≤ 5) (h1 : stepR s c t) (h2 : stepR s c t2) : t = t2 := by
  obtain ⟨a, b, f, g, P⟩ := s
  have n5 : P.1.1 ≤ 5 := h5
  rcases (show a = 0 ∨ a = 1 ∨ a = 2 ∨ a = 3 ∨ ∃ z, a = z + 4 by rcases a with _ | _ | _ | _ | z <;> simp) with rfl | rfl | rfl | rfl | ⟨z, rfl⟩
  · exact h1.2.trans h2.2.symm
  · exact h1.2.trans h2.2.symm
  · rcases (show b = 0 ∨ b = 1 ∨ ∃ y, b = y + 2 by rcases b with _ | _ | y <;> simp) with rfl | rfl | ⟨y, rfl⟩
    · exact h1.2.trans h2.2.symm
    · exact h1.2.trans h2.2.symm
    · exact h1.2.2.trans h2.2.2.symm
  · rcases (show b = 0 ∨ ∃ y, b = y + 1 by rcases b with _ | y <;> simp) with rfl | ⟨y, rfl⟩
    · exact h1.2.2.trans h2.2.2.symm
    · obtain ⟨-, k, m, hk, hm, ek, em, -, rfl⟩ := h1
      obtain ⟨-, k2, m2, hk2, hm2, ek2, em2, -, rfl⟩ := h2
      have e1 := nI_inj (by omega) (by omega) (ek.symm.trans ek2)
      have e2 := nI_inj (by omega) (by omega) (em.symm.trans em2)
      subst e1; subst e2; rfl
  · rcases (show b = 0 ∨ ∃ y, b = y + 1 by rcases b with _ | y <;> simp) with rfl | ⟨y, rfl⟩
    · exact h1.2.2.trans h2.2.2.symm
    · exact h1.2.2.trans h2.2.2.symm
theorem sh_bit : ∀ a, a < 32 → ∀ m, m < 5 → ∀ t, t < 5 → bit (nI a ||| 1 <<< (nI m &&& 31)) t = (bit (nI a) t || decide (t = m)) := by decide +kernel
theorem cut_bit : ∀ a, a < 32 → ∀ m, m < 5 → ∀ t, t < 5 → bit (cutF (nI a) m) t = (bit (nI a) t && decide (¬ t = m)) := by decide +kernel
theorem hi_bit : ∀ n, n < 6 → ∀ a, a < 32 → ∀ t, t < 10 → (a < 2 ^ n ∧ n ≤ t) → bit (nI a) t = false := by decide +kernel
theorem cut_N : ∀ a, a < 32 → ∀ m, m < 5 → cutF (nI a) m = nI (kk (cutF (nI a) m)) ∧ kk (cutF (nI a) m) ≤ a := by decide +kernel
theorem bit_00 : ∀ t, t < 5 → bit 0 t = false := by decide +kernel
def ageQ (c : Nat) (P : PT) : Prop := ∀ s, s < P.1.1 → ∃ a, a ≤ 100 + 10 * c ∧ P.2 0 s = nI a
def leftQ (P : PT) : Prop := ∀ m, m < P.1.2.1 → ∃ q, q < 1000 ∧ P.2 5 m = nI q ∧ ((P.2 7 m = 0 ∨ P.2 7 m = 1) → 1 ≤ q)
/-- what stays of a post whatever is done; c calls at most -/
def okP (c : Nat) (P : PT) : Prop := P.1.1 ≤ 5 ∧ P.1.2.1 ≤ 4 ∧ okQ P ∧ jQ P ∧ ageQ c P ∧ leftQ P
/-- a draft -/
def drP (P : PT) : Prop := okP 0 P ∧ P.1.2.2.1 = 0 ∧ P.1.2.2.2 = 0 ∧ (∀ s, s < P.1.1 → P.2 4 s = -9) ∧ (∀ m, m < P.1.2.1 → P.2 7 m = 0)
theorem drP_0 : drP P0 := ⟨⟨by decide, by decide, ⟨Or.inl rfl, fun k hk => absurd hk (Nat.not_lt_zero k), fun k hk => absurd hk (Nat.not_lt_zero k)⟩, fun k hk => absurd hk (Nat.not_lt_zero k), fun k hk => absurd hk (Nat.not_lt_zero k), fun k hk => absurd hk (Nat.not_lt_zero k)⟩, rfl, rfl, fun k hk => absurd hk (Nat.not_lt_zero k), fun k hk => absurd hk (Nat.not_lt_zero k)⟩
theorem addS_at {P : PT} {t h k : Int32} {j : Nat} (hj : j < 5) : (addS P t h k).2 j P.1.1 = (if j = 0 then 10 * t else if j = 1 then h else if j = 2 then k else if j = 3 then 0 else -9) := if_pos ⟨rfl, hj⟩
theorem addS_ne {P : PT} {t h k : Int32} {j s : Nat} (hs : ¬ (s = P.1.1 ∧ j < 5)) : (addS P t h k).2 j s = P.2 j s := if_neg hs
theorem addL_at {P : PT} {q c : Int32} {j : Nat} (hj : 5 ≤ j) : (addL P q c).2 j P.1.2.1 = (if j = 5 then q else if j = 6 then c else 0) := if_pos ⟨rfl, hj⟩
theorem addL_ne {P : PT} {q c : Int32} {j s : Nat} (hs : ¬ (s = P.1.2.1 ∧ 5 ≤ j)) : (addL P q c).2 j s = P.2 j s := if_neg hs
theorem jQ_addS {P : PT} (h : jQ P) (h5 : P.1.1 < 5) {t y k : Int32} : jQ (addS P t y k) := by
  have hp : 2 ^ P.1.1 < 2 ^ (P.1.1 + 1) := Nat.pow_lt_pow_right (by decide) (by omega)
  have hp5 := (p2_b P.1.1 (by omega)).1
  have hold : ∀ s, s < P.1.1 → (addS P t y k).2 3 s = P.2 3 s := fun s hs => addS_ne (by omega)
  have hnew : (addS P t y k).2 3 P.1.1 = 0 := addS_at (by decide)
  have hhi : ∀ s, s < P.1.1 → bit (P.2 3 s) P.1.1 = false := fun s hs => by
    obtain ⟨⟨q, hq, e⟩, -⟩ := h s hs
    rw [e]; exact hi_bit P.1.1 (by omega) q (by omega) P.1.1 (by omega) ⟨hq, Nat.le_refl _⟩
  intro s hs
  have hs' : s < P.1.1 + 1 := hs
  by_cases e : s = P.1.1
  · subst e
    rw [hnew]
    refine ⟨⟨0, Nat.pow_pos (by decide), rfl⟩, bit_00 _ (by omega), fun m hm => ?_⟩
    have hm' : m < P.1.1 + 1 := hm
    by_cases e2 : m = P.1.1
    · subst e2; rw [hnew]
    · rw [hold m (by omega), hhi m (by omega), bit_00 m (by omega)]
  · obtain ⟨⟨q, hq, eq⟩, h2, h3⟩ := h s (by omega)
    rw [hold s (by omega)]
    refine ⟨⟨q, Nat.lt_trans hq hp, eq⟩, h2, fun m hm => ?_⟩
    have hm' : m < P.1.1 + 1 := hm
    by_cases e2 : m = P.1.1
    · subst e2; rw [hnew, hhi s (by omega), bit_00 s (by omega)]
    · rw [hold m (by omega)]; exact h3 m (by omega)
theorem jQ_bits {P R : PT} (h : jQ P) (hn : R.1.1 = P.1.1) (f : Nat → Nat → Bool) (hq : ∀ s, s < P.1.1 → ∃ q, q < 2 ^ P.1.1 ∧ R.2 3 s = nI q) (hb : ∀ s t, s < P.1.1 → t < P.1.1 → bit (R.2 3 s) t = f s t) (hs : ∀ s t, s < P.1.1 → t < P.1.1 → f s t = f t s) (hd : ∀ s, s < P.1.1 → f s s = false) : jQ R := by
  intro s hs1
  rw [hn] at hs1
  refine ⟨by rw [hn]; exact hq s hs1, by rw [hb s s hs1 hs1]; exact hd s hs1, fun m hm => ?_⟩
  rw [hn] at hm
  rw [hb s m hs1 hm, hb m s hm hs1]; exact hs s m hs1 hm
theorem joinP_3 {P : PT} {k m s : Nat} (hkm : ¬ k = m) : (joinP P k m).2 3 s = if s = m then P.2 3 m ||| 1 <<< (nI k &&& 31) else if s = k then P.2 3 k ||| 1 <<< (nI m &&& 31) else P.2 3 s := by
  have hmk : ¬ m = k := fun q => hkm q.symm
  simp [joinP, setP, hmk]
theorem joinP_o {P : PT} {k m s j : Nat} (hj : ¬ j = 3) : (joinP P k m).2 j s = P.2 j s := by simp [joinP, setP, hj]
theorem partP_3 {P : PT} {k m s : Nat} (hkm : ¬ k = m) : (partP P k m).2 3 s = if s = m then cutF (P.2 3 m) k else if s = k then cutF (P.2 3 k) m else P.2 3 s := by
  have hmk : ¬ m = k := fun q => hkm q.symm
  simp [partP, part1, growP, growI, setP, hmk]
theorem jQ_joinP {P : PT} (h : jQ P) (h5 : P.1.1 ≤ 5) {k m : Nat} (hk : k < P.1.1) (hm : m < P.1.1) (hkm : ¬ k = m) : jQ (joinP P k m) := by
  have hp5 := (p2_b P.1.1 (by omega)).1
  have pk : ∀ i, i < P.1.1 → 2 ^ i < 2 ^ P.1.1 := fun i hi => Nat.pow_lt_pow_right (by decide) hi
  refine jQ_bits h rfl (fun s t => bit (P.2 3 s) t || decide ((s = k ∧ t = m) ∨ (s = m ∧ t = k))) (fun s hs => ?_) (fun s t hs ht => ?_) (fun s t hs ht => ?_) (fun s hs => ?_)
  · rw [joinP_3 hkm]
    split
    · obtain ⟨⟨q, hq, e⟩, -⟩ := h m hm
      exact ⟨_, Nat.or_lt_two_pow hq (pk k hk), by rw [e, sh_or (by omega)]⟩
    · split
      · obtain ⟨⟨q, hq, e⟩, -⟩ := h k hk
        exact ⟨_, Nat.or_lt_two_pow hq (pk m hm), by rw [e, sh_or (by omega)]⟩
      · exact (h s hs).1
  · rw [joinP_3 hkm]
    by_cases e1 : s = m
    · subst e1
      obtain ⟨⟨q, hq, e⟩, -⟩ := h s hs
      have hmk : ¬ s = k := fun q => hkm q.symm
      rw [if_pos rfl, e, sh_bit q (by omega) k (by omega) t (by omega)]
      simp [hmk]
    · rw [if_neg e1]
      by_cases e2 : s = k
      · subst e2
        obtain ⟨⟨q, hq, e⟩, -⟩ := h s hs
        rw [if_pos rfl, e, sh_bit q (by omega) m (by omega) t (by omega)]
        simp [e1]
      · rw [if_neg e2]; simp [e1, e2]
  · rw [(h s hs).2.2 t ht]
    by_cases a1 : s = k <;> by_cases a2 : s = m <;> by_cases a3 : t = k <;> by_cases a4 : t = m <;> simp [a1, a2, a3, a4]
  · rw [(h s hs).2.1]
    by_cases a1 : s = k <;> by_cases a2 : s = m
    · exact absurd (a1.symm.trans a2) hkm
    · simp [a1, a2]; exact hkm
    · simp [a1, a2]; exact fun q => hkm q.symm
    · simp [a1, a2]
theorem jQ_part {P : PT} (h : jQ P) (h5 : P.1.1 ≤ 5) {k m : Nat} (hk : k < P.1.1) (hm : m < P.1.1) (hkm : ¬ k = m) : jQ (partP P k m) := by
  have hp5 := (p2_b P.1.1 (by omega)).1
  refine jQ_bits h rfl (fun s t => bit (P.2 3 s) t && decide (¬ ((s = k ∧ t = m) ∨ (s = m ∧ t = k)))) (fun s hs => ?_) (fun s t hs ht => ?_) (fun s t hs ht => ?_) (fun s hs => ?_)
  · rw [partP_3 hkm]
    split
    · obtain ⟨⟨q, hq, e⟩, -⟩ := h m hm
      rw [e]; exact ⟨_, Nat.lt_of_le_of_lt (cut_N q (by omega) k (by omega)).2 hq, (cut_N q (by omega) k (by omega)).1⟩
    · split
      · obtain ⟨⟨q, hq, e⟩, -⟩ := h k hk
        rw [e]; exact ⟨_, Nat.lt_of_le_of_lt (cut_N q (by omega) m (by omega)).2 hq, (cut_N q (by omega) m (by omega)).1⟩
      · exact (h s hs).1
  · rw [partP_3 hkm]
    by_cases e1 : s = m
    · subst e1
      obtain ⟨⟨q, hq, e⟩, -⟩ := h s hs
      have hmk : ¬ s = k := fun q => hkm q.symm
      rw [if_pos rfl, e, cut_bit q (by omega) k (by omega) t (by omega)]
      simp [hmk]
    · rw [if_neg e1]
      by_cases e2 : s = k
      · subst e2
        obtain ⟨⟨q, hq, e⟩, -⟩ := h s hs
        rw [if_pos rfl, e, cut_bit q (by omega) m (by omega) t (by omega)]
        simp [e1]
      · rw [if_neg e2]; simp [e1, e2]
  · rw [(h s hs).2.2 t ht]
    by_cases a1 : s = k <;> by_cases a2 : s = m <;> by_cases a3 : t = k <;> by_cases a4 : t = m <;> simp [a1, a2, a3, a4]
  · rw [(h s hs).2.1]; rfl
theorem okP.up {c d : Nat} {P : PT} (h : okP c P) (hcd : c ≤ d) : okP d P := ⟨h.1, h.2.1, h.2.2.1, h.2.2.2.1, fun s hs => by
  obtain ⟨a, ha, e⟩ := h.2.2.2.2.1 s hs
  exact ⟨a, by omega, e⟩, h.2.2.2.2.2⟩
theorem grow_age {P : PT} {x k : Int32} {d B : Nat} (hk : k = nI d) (hd : d ≤ 2) (h : ∀ s, s < P.1.1 → ∃ a, a ≤ B ∧ P.2 0 s = nI a) : ∀ s, s < P.1.1 → ∃ a, a ≤ B + 2 ∧ (growP P x k).2 0 s = nI a := fun s hs => by
  obtain ⟨a, ha, e⟩ := h s hs
  show ∃ a, a ≤ B + 2 ∧ (if 0 = 0 ∧ s < P.1.1 ∧ bit x s = true ∧ ¬ P.2 2 s = 3 then P.2 0 s + k else P.2 0 s) = nI a
  split
  · exact ⟨a + d, by omega, by rw [e, hk, nI_add]⟩
  · exact ⟨a, by omega, e⟩
theorem okP_pass {c : Nat} {P : PT} (h : okP c P) : okP (c + 1) (passP P) := by
  obtain ⟨h5, h4, hq, hj, ha, hl⟩ := h
  refine ⟨h5, h4, hq.pass, ?_, ?_, ?_⟩
  · intro k hk
    obtain ⟨a1, a2, a3⟩ := hj k hk
    rw [pass_row (by decide) (by decide) (by decide)]
    exact ⟨a1, a2, fun m hm => by rw [pass_row (by decide) (by decide) (by decide)]; exact a3 m hm⟩
  · intro s hs
    obtain ⟨d, hd, ed⟩ : ∃ d, d ≤ 2 ∧ (if P.1.2.2.2 = 0 then (1 : Int32) else 2) = nI d := by
      by_cases q : P.1.2.2.2 = 0
      · rw [if_pos q]; exact ⟨1, by decide, rfl⟩
      · rw [if_neg q]; exact ⟨2, by decide, rfl⟩
    have g1 := grow_age (x := aliveP P) ed hd ha
    have g2 := grow_age (P := growP P (aliveP P) (if P.1.2.2.2 = 0 then 1 else 2)) (x := widP (growP P (aliveP P) (if P.1.2.2.2 = 0 then 1 else 2))) (k := 2) (d := 2) rfl (by decide) g1 s hs
    obtain ⟨a, hab, e⟩ := g2
    refine ⟨a, by omega, ?_⟩
    rw [← e]
    show (carI (grR P) P.1.2.1).2 0 s = (grR P).2 0 s
    rw [car_row (by decide) (by decide)]
  · intro m hm
    obtain ⟨q, hq9, e, h1⟩ := hl m hm
    have r5 : (grR P).2 5 m = P.2 5 m := by simp [grR, growP, growI]
    have r7 : (grR P).2 7 m = P.2 7 m := by simp [grR, growP, growI]
    show ∃ q, q < 1000 ∧ (carI (grR P) P.1.2.1).2 5 m = nI q ∧ (((carI (grR P) P.1.2.1).2 7 m = 0 ∨ (carI (grR P) P.1.2.1).2 7 m = 1) → 1 ≤ q)
    have hm' : m < P.1.2.1 := hm
    by_cases q1 : P.2 7 m = 1
    · have hq1 := h1 (Or.inr q1)
      have c5 : (carI (grR P) P.1.2.1).2 5 m = nI (q - 1) := by
        show (if m < P.1.2.1 ∧ (grR P).2 7 m = 1 then _ else _) = _
        rw [if_pos ⟨hm', r7.trans q1⟩, if_pos rfl, r5, e]
        exact pk_sub (b := 1) hq1
      have c7 : (carI (grR P) P.1.2.1).2 7 m = (if 0 < nI (q - 1) then 1 else if ¬ stuckP (grR P) (nI m) &&& aliveP (grR P) = 0 then 2 else 3) := by
        show (if m < P.1.2.1 ∧ (grR P).2 7 m = 1 then _ else _) = _
        rw [if_pos ⟨hm', r7.trans q1⟩, if_neg (by decide), if_pos rfl, r5, e, show nI q - 1 = nI (q - 1) from pk_sub (b := 1) hq1]
      refine ⟨q - 1, by omega, c5, fun kz => ?_⟩
      rw [c7] at kz
      by_cases q2 : 0 < nI (q - 1)
      · have := (nI_ltI (a := 0) (by decide) (by omega)).mp q2
        omega
      · rw [if_neg q2] at kz
        exfalso
        by_cases q3 : stuckP (grR P) (nI m) &&& aliveP (grR P) = 0
        · rw [if_neg (fun kx => kx q3)] at kz; revert kz; decide
        · rw [if_pos q3] at kz; revert kz; decide
    · have hno : ¬ (m < P.1.2.1 ∧ (grR P).2 7 m = 1) := fun kz => q1 (r7.symm.trans kz.2)
      have c5 : (carI (grR P) P.1.2.1).2 5 m = P.2 5 m := by
        show (if m < P.1.2.1 ∧ (grR P).2 7 m = 1 then _ else _) = _
        rw [if_neg hno]; exact r5
      have c7 : (carI (grR P) P.1.2.1).2 7 m = P.2 7 m := by
        show (if m < P.1.2.1 ∧ (grR P).2 7 m = 1 then _ else _) = _
        rw [if_neg hno]; exact r7
      rw [c5, c7]
      exact ⟨q, hq9, e, h1⟩
theorem okP_stick {c : Nat} {P : PT} (h : okP c P) (k : Nat) (l : Int32) : okP c (stickP P k l) := by
  obtain ⟨h5, h4, hq, hj, ha, hl⟩ := h
  have r : ∀ j s, ¬ j = 4 → ¬ j = 1 → (stickP P k l).2 j s = P.2 j s := fun j s e1 e2 => by simp [stickP, setP, e1, e2]
  refine ⟨h5, h4, hq.stick k l, ?_, ?_, ?_⟩
  · intro s hs
    obtain ⟨a1, a2, a3⟩ := hj s hs
    rw [r 3 s (by decide) (by decide)]
    exact ⟨a1, a2, fun m hm => by rw [r 3 m (by decide) (by decide)]; exact a3 m hm⟩
  · intro s hs; rw [r 0 s (by decide) (by decide)]; exact ha s hs
  · intro m hm; rw [r 5 m (by decide) (by decide), r 7 m (by decide) (by decide)]; exact hl m hm
theorem okP_send {c : Nat} {P : PT} (h : okP c P) {k : Nat} (h7 : P.2 7 k = 0) : okP c (sendP P k) := by
  obtain ⟨h5, h4, hq, hj, ha, hl⟩ := h
  have r : ∀ j s, ¬ j = 7 → (sendP P k).2 j s = P.2 j s := fun j s e1 => by simp [sendP, setP, e1]
  refine ⟨h5, h4, hq.send k, ?_, ?_, ?_⟩
  · intro s hs
    obtain ⟨a1, a2, a3⟩ := hj s hs
    rw [r 3 s (by decide)]
    exact ⟨a1, a2, fun m hm => by rw [r 3 m (by decide)]; exact a3 m hm⟩
  · intro s hs; rw [r 0 s (by decide)]; exact ha s hs
  · intro m hm
    obtain ⟨q, hq9, e, h1⟩ := hl m hm
    rw [r 5 m (by decide)]
    refine ⟨q, hq9, e, fun kz => ?_⟩
    by_cases e1 : m = k
    · subst e1; exact h1 (Or.inl h7)
    · have : (sendP P k).2 7 m = P.2 7 m := by simp [sendP, setP, e1]
      rw [this] at kz; exact h1 kz
theorem okP_part {c : Nat} {P : PT} (h : okP c P) {k m : Nat} (hk : k < P.1.1) (hm : m < P.1.1) (hb : bit (P.2 3 k) m = true) : okP (c + 1) (partP P k m) := by
  obtain ⟨h5, h4, hq, hj, ha, hl⟩ := h
  have hkm : ¬ k = m := fun e => by subst e; rw [(hj k hk).2.1] at hb; cases hb
  have r : ∀ j s, ¬ j = 0 → ¬ j = 3 → (partP P k m).2 j s = P.2 j s := fun j s e0 e3 => by simp [partP, part1, growP, growI, setP, e0, e3]
  refine ⟨h5, h4, hq.part k m, jQ_part hj h5 hk hm hkm, ?_, ?_⟩
  · have g1 := grow_age (P := part1 (part1 P k m) m k) (x := 1 <<< (nI k &&& 31) ||| 1 <<< (nI m &&& 31)) (k := 1) (d := 1) (B := 100 + 10 * c) rfl (by decide) (fun s hs => by
      have e : (part1 (part1 P k m) m k).2 0 s = P.2 0 s := by simp [part1, setP]
      rw [e]; exact ha s hs)
    intro s hs
    obtain ⟨a, hab, e⟩ := g1 s hs
    exact ⟨a, by omega, e⟩
  · intro q hq1; rw [r 5 q (by decide) (by decide), r 7 q (by decide) (by decide)]; exact hl q hq1
theorem okP_damp {c : Nat} {P : PT} (h : okP c P) {x : Int32} (hx : x = 0 ∨ x = 1) : okP c (dampP P x) := ⟨h.1, h.2.1, h.2.2.1.damp hx, h.2.2.2.1, h.2.2.2.2.1, h.2.2.2.2.2⟩
theorem drP_addS {P : PT} (h : drP P) (h5 : P.1.1 < 5) {f g k : Nat} (hf : f < 10) (hg : g < 10) (hk : k ≤ 3) : drP (addS P (nI f) (nI g) (nI k)) := by
  obtain ⟨⟨a5, a4, ⟨q1, q2, q3⟩, hj, ha, hl⟩, w0, d0, on, ft⟩ := h
  have o : ∀ j s, s < P.1.1 → (addS P (nI f) (nI g) (nI k)).2 j s = P.2 j s := fun j s hs => addS_ne (by omega)
  have o5 : ∀ j s, 5 ≤ j → (addS P (nI f) (nI g) (nI k)).2 j s = P.2 j s := fun j s hj => addS_ne (by omega)
  have cs : ∀ s, s < P.1.1 + 1 → s < P.1.1 ∨ s = P.1.1 := fun s hs => by omega
  refine ⟨⟨by show P.1.1 + 1 ≤ 5; omega, a4, ⟨q1, fun s hs => ?_, fun s hs => ?_⟩, jQ_addS hj h5, fun s hs => ?_, fun m hm => ?_⟩, w0, d0, fun s hs => ?_, fun m hm => ?_⟩
  · rcases cs s hs with q | rfl
    · rw [o 1 s q]; exact q2 s q
    · rw [addS_at (by decide)]; exact ⟨g, by omega, rfl⟩
  · rcases cs s hs with q | rfl
    · rw [o 2 s q]; exact q3 s q
    · rw [addS_at (by decide)]
      show nI k = 0 ∨ nI k = 1 ∨ nI k = 2 ∨ nI k = 3
      rcases (show k = 0 ∨ k = 1 ∨ k = 2 ∨ k = 3 by omega) with rfl | rfl | rfl | rfl <;> decide
  · rcases cs s hs with q | rfl
    · rw [o 0 s q]; exact ha s q
    · rw [addS_at (by decide)]; exact ⟨10 * f, by omega, pk_mul 10 f⟩
  · rw [o5 5 m (by decide), o5 7 m (by decide)]; exact hl m hm
  · rcases cs s hs with q | rfl
    · rw [o 4 s q]; exact on s q
    · rw [addS_at (by decide)]; rfl
  · rw [o5 7 m (by decide)]; exact ft m hm
theorem drP_addL {P : PT} (h : drP P) (h4 : P.1.2.1 < 4) {f g : Nat} (hf : 1 ≤ f) (hf9 : f < 10) : drP (addL P (nI f) (nI g)) := by
  obtain ⟨⟨a5, a4, ⟨q1, q2, q3⟩, hj, ha, hl⟩, w0, d0, on, ft⟩ := h
  have o : ∀ j s, j < 5 → (addL P (nI f) (nI g)).2 j s = P.2 j s := fun j s hs => addL_ne (by omega)
  have o5 : ∀ j s, s < P.1.2.1 → (addL P (nI f) (nI g)).2 j s = P.2 j s := fun j s hj => addL_ne (by omega)
  have cs : ∀ s, s < P.1.2.1 + 1 → s < P.1.2.1 ∨ s = P.1.2.1 := fun s hs => by omega
  refine ⟨⟨a5, by show P.1.2.1 + 1 ≤ 4; omega, ⟨q1, fun s hs => ?_, fun s hs => ?_⟩, ?_, fun s hs => ?_, fun m hm => ?_⟩, w0, d0, fun s hs => ?_, fun m hm => ?_⟩
  · rw [o 1 s (by decide)]; exact q2 s hs
  · rw [o 2 s (by decide)]; exact q3 s hs
  · intro s hs
    obtain ⟨a1, a2, a3⟩ := hj s hs
    rw [o 3 s (by decide)]
    exact ⟨a1, a2, fun m hm => by rw [o 3 m (by decide)]; exact a3 m hm⟩
  · rw [o 0 s (by decide)]; exact ha s hs
  · rcases cs m hm with q | rfl
    · rw [o5 5 m q, o5 7 m q]; exact hl m q
    · rw [addL_at (by decide)]; exact ⟨f, by omega, rfl, fun _ => hf⟩
  · rw [o 4 s (by decide)]; exact on s hs
  · rcases cs m hm with q | rfl
    · rw [o5 7 m q]; exact ft m q
    · rw [addL_at (by decide)]; rfl
theorem drP_join {P : PT} (h : drP P) {k m : Nat} (hk : k < P.1.1) (hm : m < P.1.1) (hkm : ¬ k = m) : drP (joinP P k m) := by
  obtain ⟨⟨a5, a4, ⟨q1, q2, q3⟩, hj, ha, hl⟩, w0, d0, on, ft⟩ := h
  have o : ∀ j s, ¬ j = 3 → (joinP P k m).2 j s = P.2 j s := fun j s e => joinP_o e
  refine ⟨⟨a5, a4, ⟨q1, fun s hs => ?_, fun s hs => ?_⟩, jQ_joinP hj a5 hk hm hkm, fun s hs => ?_, fun m hm => ?_⟩, w0, d0, fun s hs => ?_, fun m hm => ?_⟩
  · rw [o 1 s (by decide)]; exact q2 s hs
  · rw [o 2 s (by decide)]; exact q3 s hs
  · rw [o 0 s (by decide)]; exact ha s hs
  · rw [o 5 m (by decide), o 7 m (by decide)]; exact hl m hm
  · rw [o 4 s (by decide)]; exact on s hs
  · rw [o 7 m (by decide)]; exact ft m hm
/-- the states that reading comes to -/
def drR (s : RT) : Prop := ∃ P, drP P ∧ (s = (0, 0, 0, 0, P) ∨ s = (1, 0, 0, 0, P) ∨ (P.1.1 < 5 ∧ s = (2, 0, 0, 0, P)) ∨ (P.1.1 < 5 ∧ ∃ f, f < 10 ∧ s = (2, 1, nI f, 0, P)) ∨ (P.1.1 < 5 ∧ ∃ f g, f < 10 ∧ g < 10 ∧ s = (2, 2, nI f, nI g, P)) ∨ s = (3, 0, 0, 0, P) ∨ (∃ f, s = (3, 1, f, 0, P)) ∨ (P.1.2.1 < 4 ∧ s = (4, 0, 0, 0, P)) ∨ (P.1.2.1 < 4 ∧ ∃ f, 1 ≤ f ∧ f < 10 ∧ s = (4, 1, nI f, 0, P)))
theorem drR.dr {s : RT} (h : drR s) : drP s.2.2.2.2 := by
  obtain ⟨P, hP, h⟩ := h
  rcases h with rfl | rfl | ⟨-, rfl⟩ | ⟨-, f, -, rfl⟩ | ⟨-, f, g, -, -, rfl⟩ | rfl | ⟨f, rfl⟩ | ⟨-, rfl⟩ | ⟨-, f, -, -, rfl⟩ <;> exact hP
theorem fig_d {c : Int32} (h : fig c) : ∃ d, d < 10 ∧ c - 48 = nI d := inQ_le (c := 9) (by decide) h.1 (i_nlt.mpr h.2)
theorem drR_step {s t : RT} {c : Int32} (h : drR s) (hs : stepR s c t) : drR t := by
  obtain ⟨P, hP, h⟩ := h
  rcases h with rfl | rfl | ⟨h5, rfl⟩ | ⟨h5, f, hf, rfl⟩ | ⟨h5, f, g, hf, hg, rfl⟩ | rfl | ⟨f, rfl⟩ | ⟨h4, rfl⟩ | ⟨h4, f, hf1, hf, rfl⟩
  · obtain ⟨-, rfl⟩ := hs
    exact ⟨P, hP, Or.inr (Or.inl rfl)⟩
  · obtain ⟨ho, rfl⟩ := hs
    refine ⟨P, hP, ?_⟩
    rcases ho with ⟨rfl, k⟩ | ⟨rfl, k⟩ | ⟨rfl, k⟩
    · exact Or.inr (Or.inr (Or.inl ⟨k, by simp⟩))
    · exact Or.inr (Or.inr (Or.inr (Or.inr (Or.inr (Or.inl (by simp))))))
    · exact Or.inr (Or.inr (Or.inr (Or.inr (Or.inr (Or.inr (Or.inr (Or.inl ⟨k, by simp⟩)))))))
  · obtain ⟨hf, rfl⟩ := hs
    obtain ⟨d, hd, e⟩ := fig_d hf
    exact ⟨P, hP, Or.inr (Or.inr (Or.inr (Or.inl ⟨h5, d, hd, by rw [e]⟩)))⟩
  · obtain ⟨hc, rfl⟩ := hs
    obtain ⟨d, hd, e⟩ := fig_d hc
    exact ⟨P, hP, Or.inr (Or.inr (Or.inr (Or.inr (Or.inl ⟨h5, f, d, hf, hd, by rw [e]⟩))))⟩
  · obtain ⟨hc, h3, rfl⟩ := hs
    obtain ⟨d, hd, e⟩ := fig_d hc
    rw [e] at h3 ⊢
    have hd3 : d ≤ 3 := (nI_leI (b := 3) (by omega) (by decide)).mp h3
    exact ⟨_, drP_addS hP h5 hf hg hd3, Or.inr (Or.inl rfl)⟩
  · obtain ⟨hc, -, rfl⟩ := hs
    exact ⟨P, hP, Or.inr (Or.inr (Or.inr (Or.inr (Or.inr (Or.inr (Or.inl ⟨_, rfl⟩))))))⟩
  · obtain ⟨hc, k, m, hk, hm, e1, e2, hjq, rfl⟩ := hs
    refine ⟨_, drP_join hP hk hm (fun q => hjq.2.2.1 (by rw [e1, e2, q])), Or.inr (Or.inl rfl)⟩
  · obtain ⟨hc, h1, rfl⟩ := hs
    obtain ⟨d, hd, e⟩ := fig_d hc
    rw [e] at h1 ⊢
    have hd1 : 1 ≤ d := Nat.le_of_not_lt (fun q => h1 ((nI_ltI (b := 1) (by omega) (by decide)).mpr q))
    exact ⟨P, hP, Or.inr (Or.inr (Or.inr (Or.inr (Or.inr (Or.inr (Or.inr (Or.inr ⟨h4, d, hd1, hd, rfl⟩)))))))⟩
  · obtain ⟨hc, h1, rfl⟩ := hs
    obtain ⟨d, hd, e⟩ := fig_d hc
    rw [e] at h1 ⊢
    exact ⟨_, drP_addL hP h4 hf1 hf, Or.inr (Or.inl rfl)⟩
theorem reach_dr {x : Nat → Int32} : ∀ {i : Nat} {s : RT}, reachR x i s → drR s
  | 0, s, h => ⟨P0, drP_0, Or.inl h⟩
  | i + 1, s, ⟨t, h, hs⟩ => drR_step (reach_dr h) hs
theorem reach_det {x : Nat → Int32} : ∀ {i : Nat} {s t : RT}, reachR x i s → reachR x i t → s = t
  | 0, s, t, h1, h2 => Eq.trans h1 (Eq.symm h2)
  | i + 1, s, t, ⟨a, h1, s1⟩, ⟨b, h2, s2⟩ => by
    have e := reach_det h1 h2
    subst e
    exact stepR_det (reach_dr h1).dr.1.1 s1 s2
theorem reach_pre {x : Nat → Int32} {i : Nat} : ∀ {j : Nat} {s : RT}, reachR x j s → i < j → ∃ t t2, reachR x i t ∧ stepR t (x i) t2
  | j + 1, s, ⟨t, h, hs⟩, hij => by
    by_cases e : i = j
    · subst e; exact ⟨t, s, h, hs⟩
    · exact reach_pre h (by omega)
theorem text_det {x : Nat → Int32} {n : Nat} {r t : Int32} {s u : RT} (h1 : textR x n r s) (h2 : textR x n t u) : r = t ∧ s = u := by
  have no : ∀ {i j : Nat} {a b : RT}, reachR x i a → (¬ ∃ t, stepR a (x i) t) → reachR x j b → i < j → False := fun ha hn hb hij => by
    obtain ⟨p, q, hp, hq⟩ := reach_pre hb hij
    rw [reach_det ha hp] at hn
    exact hn ⟨q, hq⟩
  rcases h1 with ⟨i, hi, a1, a2, rfl⟩ | ⟨a1, a2, rfl⟩ | ⟨a1, a2, rfl⟩
  · rcases h2 with ⟨j, hj, b1, b2, rfl⟩ | ⟨b1, b2, rfl⟩ | ⟨b1, b2, rfl⟩
    · rcases Nat.lt_trichotomy i j with q | q | q
      · exact (no a1 a2 b1 q).elim
      · subst q; exact ⟨rfl, reach_det a1 b1⟩
      · exact (no b1 b2 a1 q).elim
    · exact (no a1 a2 b1 hi).elim
    · exact (no a1 a2 b1 hi).elim
  · rcases h2 with ⟨j, hj, b1, b2, rfl⟩ | ⟨b1, b2, rfl⟩ | ⟨b1, b2, rfl⟩
    · exact (no b1 b2 a1 hj).elim
    · exact ⟨rfl, reach_det a1 b1⟩
    · rw [reach_det a1 b1] at a2; exact absurd b2 a2
  · rcases h2 with ⟨j, hj, b1, b2, rfl⟩ | ⟨b1, b2, rfl⟩ | ⟨b1, b2, rfl⟩
    · exact (no b1 b2 a1 hj).elim
    · rw [reach_det a1 b1] at a2; exact absurd a2 b2
    · exact ⟨rfl, reach_det a1 b1⟩

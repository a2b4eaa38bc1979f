theorem rowR.set0 {f : Nat → Int32} {a k : Nat} {P : PT} {x : Int32} (h : rowR f a P) (h5 : P.1.1 ≤ 5) (h4 : P.1.2.1 ≤ 4) (hk : k < P.1.1) : rowR (upd f (a + k) x) a (setP P 0 k x) := by
  obtain ⟨h1, h2, h3, h6⟩ := h
  refine ⟨?_, ?_, fun s hs => ⟨?_, ?_, ?_, ?_⟩, fun s hs => ⟨?_, ?_⟩⟩
  · simp only [upd]; rw [if_neg (by omega)]; exact h1
  · simp only [upd]; rw [if_neg (by omega)]; exact h2
  · have hs : s < P.1.1 := hs
    simp only [upd, setP]
    by_cases e : s = k
    · rw [if_pos (by rw [e]), if_pos ⟨trivial, e⟩]
    · rw [if_neg (by omega), if_neg (fun q => e q.2)]; exact (h3 s hs).1
  · have hs : s < P.1.1 := hs
    simp only [upd, setP]; rw [if_neg (by omega), if_neg (fun q => absurd q.1 (by decide))]; exact (h3 s hs).2.1
  · have hs : s < P.1.1 := hs
    simp only [upd, setP]; rw [if_neg (by omega), if_neg (fun q => absurd q.1 (by decide))]; exact (h3 s hs).2.2.1
  · have hs : s < P.1.1 := hs
    simp only [upd, setP]; rw [if_neg (by omega), if_neg (fun q => absurd q.1 (by decide))]; exact (h3 s hs).2.2.2
  · have hs : s < P.1.2.1 := hs
    simp only [upd, setP]; rw [if_neg (by omega), if_neg (fun q => absurd q.1 (by decide))]; exact (h6 s hs).1
  · have hs : s < P.1.2.1 := hs
    simp only [upd, setP]; rw [if_neg (by omega), if_neg (fun q => absurd q.1 (by decide))]; exact (h6 s hs).2
theorem rowR.set1 {f : Nat → Int32} {a k : Nat} {P : PT} {x : Int32} (h : rowR f a P) (h5 : P.1.1 ≤ 5) (h4 : P.1.2.1 ≤ 4) (hk : k < P.1.1) : rowR (upd f (a + 5 + k) x) a (setP P 1 k x) := by
  obtain ⟨h1, h2, h3, h6⟩ := h
  refine ⟨?_, ?_, fun s hs => ⟨?_, ?_, ?_, ?_⟩, fun s hs => ⟨?_, ?_⟩⟩
  · simp only [upd]; rw [if_neg (by omega)]; exact h1
  · simp only [upd]; rw [if_neg (by omega)]; exact h2
  · have hs : s < P.1.1 := hs
    simp only [upd, setP]; rw [if_neg (by omega), if_neg (fun q => absurd q.1 (by decide))]; exact (h3 s hs).1
  · have hs : s < P.1.1 := hs
    simp only [upd, setP]
    by_cases e : s = k
    · rw [if_pos (by rw [e]), if_pos ⟨trivial, e⟩]
    · rw [if_neg (by omega), if_neg (fun q => e q.2)]; exact (h3 s hs).2.1
  · have hs : s < P.1.1 := hs
    simp only [upd, setP]; rw [if_neg (by omega), if_neg (fun q => absurd q.1 (by decide))]; exact (h3 s hs).2.2.1
  · have hs : s < P.1.1 := hs
    simp only [upd, setP]; rw [if_neg (by omega), if_neg (fun q => absurd q.1 (by decide))]; exact (h3 s hs).2.2.2
  · have hs : s < P.1.2.1 := hs
    simp only [upd, setP]; rw [if_neg (by omega), if_neg (fun q => absurd q.1 (by decide))]; exact (h6 s hs).1
  · have hs : s < P.1.2.1 := hs
    simp only [upd, setP]; rw [if_neg (by omega), if_neg (fun q => absurd q.1 (by decide))]; exact (h6 s hs).2
theorem rowR.set3 {f : Nat → Int32} {a k : Nat} {P : PT} {x : Int32} (h : rowR f a P) (h5 : P.1.1 ≤ 5) (h4 : P.1.2.1 ≤ 4) (hk : k < P.1.1) : rowR (upd f (a + 10 + k) x) a (setP P 3 k x) := by
  obtain ⟨h1, h2, h3, h6⟩ := h
  refine ⟨?_, ?_, fun s hs => ⟨?_, ?_, ?_, ?_⟩, fun s hs => ⟨?_, ?_⟩⟩
  · simp only [upd]; rw [if_neg (by omega)]; exact h1
  · simp only [upd]; rw [if_neg (by omega)]; exact h2
  · have hs : s < P.1.1 := hs
    simp only [upd, setP]; rw [if_neg (by omega), if_neg (fun q => absurd q.1 (by decide))]; exact (h3 s hs).1
  · have hs : s < P.1.1 := hs
    simp only [upd, setP]; rw [if_neg (by omega), if_neg (fun q => absurd q.1 (by decide))]; exact (h3 s hs).2.1
  · have hs : s < P.1.1 := hs
    simp only [upd, setP]
    by_cases e : s = k
    · rw [if_pos (by rw [e]), if_pos ⟨trivial, e⟩]
    · rw [if_neg (by omega), if_neg (fun q => e q.2)]; exact (h3 s hs).2.2.1
  · have hs : s < P.1.1 := hs
    simp only [upd, setP]; rw [if_neg (by omega), if_neg (fun q => absurd q.1 (by decide))]; exact (h3 s hs).2.2.2
  · have hs : s < P.1.2.1 := hs
    simp only [upd, setP]; rw [if_neg (by omega), if_neg (fun q => absurd q.1 (by decide))]; exact (h6 s hs).1
  · have hs : s < P.1.2.1 := hs
    simp only [upd, setP]; rw [if_neg (by omega), if_neg (fun q => absurd q.1 (by decide))]; exact (h6 s hs).2
theorem rowR.set4 {f : Nat → Int32} {a k : Nat} {P : PT} {x : Int32} (h : rowR f a P) (h5 : P.1.1 ≤ 5) (h4 : P.1.2.1 ≤ 4) (hk : k < P.1.1) : rowR (upd f (a + 15 + k) x) a (setP P 4 k x) := by
  obtain ⟨h1, h2, h3, h6⟩ := h
  refine ⟨?_, ?_, fun s hs => ⟨?_, ?_, ?_, ?_⟩, fun s hs => ⟨?_, ?_⟩⟩
  · simp only [upd]; rw [if_neg (by omega)]; exact h1
  · simp only [upd]; rw [if_neg (by omega)]; exact h2
  · have hs : s < P.1.1 := hs
    simp only [upd, setP]; rw [if_neg (by omega), if_neg (fun q => absurd q.1 (by decide))]; exact (h3 s hs).1
  · have hs : s < P.1.1 := hs
    simp only [upd, setP]; rw [if_neg (by omega), if_neg (fun q => absurd q.1 (by decide))]; exact (h3 s hs).2.1
  · have hs : s < P.1.1 := hs
    simp only [upd, setP]; rw [if_neg (by omega), if_neg (fun q => absurd q.1 (by decide))]; exact (h3 s hs).2.2.1
  · have hs : s < P.1.1 := hs
    simp only [upd, setP]
    by_cases e : s = k
    · rw [if_pos (by rw [e]), if_pos ⟨trivial, e⟩]
    · rw [if_neg (by omega), if_neg (fun q => e q.2)]; exact (h3 s hs).2.2.2
  · have hs : s < P.1.2.1 := hs
    simp only [upd, setP]; rw [if_neg (by omega), if_neg (fun q => absurd q.1 (by decide))]; exact (h6 s hs).1
  · have hs : s < P.1.2.1 := hs
    simp only [upd, setP]; rw [if_neg (by omega), if_neg (fun q => absurd q.1 (by decide))]; exact (h6 s hs).2
theorem rowR.set5 {f : Nat → Int32} {a k : Nat} {P : PT} {x : Int32} (h : rowR f a P) (h5 : P.1.1 ≤ 5) (h4 : P.1.2.1 ≤ 4) (hk : k < P.1.2.1) : rowR (upd f (a + 20 + k) x) a (setP P 5 k x) := by
  obtain ⟨h1, h2, h3, h6⟩ := h
  refine ⟨?_, ?_, fun s hs => ⟨?_, ?_, ?_, ?_⟩, fun s hs => ⟨?_, ?_⟩⟩
  · simp only [upd]; rw [if_neg (by omega)]; exact h1
  · simp only [upd]; rw [if_neg (by omega)]; exact h2
  · have hs : s < P.1.1 := hs
    simp only [upd, setP]; rw [if_neg (by omega), if_neg (fun q => absurd q.1 (by decide))]; exact (h3 s hs).1
  · have hs : s < P.1.1 := hs
    simp only [upd, setP]; rw [if_neg (by omega), if_neg (fun q => absurd q.1 (by decide))]; exact (h3 s hs).2.1
  · have hs : s < P.1.1 := hs
    simp only [upd, setP]; rw [if_neg (by omega), if_neg (fun q => absurd q.1 (by decide))]; exact (h3 s hs).2.2.1
  · have hs : s < P.1.1 := hs
    simp only [upd, setP]; rw [if_neg (by omega), if_neg (fun q => absurd q.1 (by decide))]; exact (h3 s hs).2.2.2
  · have hs : s < P.1.2.1 := hs
    simp only [upd, setP]
    by_cases e : s = k
    · rw [if_pos (by rw [e]), if_pos ⟨trivial, e⟩]
    · rw [if_neg (by omega), if_neg (fun q => e q.2)]; exact (h6 s hs).1
  · have hs : s < P.1.2.1 := hs
    simp only [upd, setP]; rw [if_neg (by omega), if_neg (fun q => absurd q.1 (by decide))]; exact (h6 s hs).2
theorem rowR.set7 {f : Nat → Int32} {a k : Nat} {P : PT} {x : Int32} (h : rowR f a P) (h5 : P.1.1 ≤ 5) (h4 : P.1.2.1 ≤ 4) (hk : k < P.1.2.1) : rowR (upd f (a + 24 + k) x) a (setP P 7 k x) := by
  obtain ⟨h1, h2, h3, h6⟩ := h
  refine ⟨?_, ?_, fun s hs => ⟨?_, ?_, ?_, ?_⟩, fun s hs => ⟨?_, ?_⟩⟩
  · simp only [upd]; rw [if_neg (by omega)]; exact h1
  · simp only [upd]; rw [if_neg (by omega)]; exact h2
  · have hs : s < P.1.1 := hs
    simp only [upd, setP]; rw [if_neg (by omega), if_neg (fun q => absurd q.1 (by decide))]; exact (h3 s hs).1
  · have hs : s < P.1.1 := hs
    simp only [upd, setP]; rw [if_neg (by omega), if_neg (fun q => absurd q.1 (by decide))]; exact (h3 s hs).2.1
  · have hs : s < P.1.1 := hs
    simp only [upd, setP]; rw [if_neg (by omega), if_neg (fun q => absurd q.1 (by decide))]; exact (h3 s hs).2.2.1
  · have hs : s < P.1.1 := hs
    simp only [upd, setP]; rw [if_neg (by omega), if_neg (fun q => absurd q.1 (by decide))]; exact (h3 s hs).2.2.2
  · have hs : s < P.1.2.1 := hs
    simp only [upd, setP]; rw [if_neg (by omega), if_neg (fun q => absurd q.1 (by decide))]; exact (h6 s hs).1
  · have hs : s < P.1.2.1 := hs
    simp only [upd, setP]
    by_cases e : s = k
    · rw [if_pos (by rw [e]), if_pos ⟨trivial, e⟩]
    · rw [if_neg (by omega), if_neg (fun q => e q.2)]; exact (h6 s hs).2
theorem rowR.week {f : Nat → Int32} {a : Nat} {P : PT} {x : Int32} (h : rowR f a P) (h5 : P.1.1 ≤ 5) (h4 : P.1.2.1 ≤ 4) : rowR (upd f (a + 29) x) a (weekP P x) := by
  obtain ⟨h1, h2, h3, h6⟩ := h
  refine ⟨?_, ?_, fun s hs => ⟨?_, ?_, ?_, ?_⟩, fun s hs => ⟨?_, ?_⟩⟩
  · simp only [upd]; exact if_pos trivial
  · simp only [upd]; rw [if_neg (by omega)]; exact h2
  · have hs : s < P.1.1 := hs
    simp only [upd]; rw [if_neg (by omega)]; exact (h3 s hs).1
  · have hs : s < P.1.1 := hs
    simp only [upd]; rw [if_neg (by omega)]; exact (h3 s hs).2.1
  · have hs : s < P.1.1 := hs
    simp only [upd]; rw [if_neg (by omega)]; exact (h3 s hs).2.2.1
  · have hs : s < P.1.1 := hs
    simp only [upd]; rw [if_neg (by omega)]; exact (h3 s hs).2.2.2
  · have hs : s < P.1.2.1 := hs
    simp only [upd]; rw [if_neg (by omega)]; exact (h6 s hs).1
  · have hs : s < P.1.2.1 := hs
    simp only [upd]; rw [if_neg (by omega)]; exact (h6 s hs).2
theorem rowR.damp {f : Nat → Int32} {a : Nat} {P : PT} {x : Int32} (h : rowR f a P) (h5 : P.1.1 ≤ 5) (h4 : P.1.2.1 ≤ 4) : rowR (upd f (a + 28) x) a (dampP P x) := by
  obtain ⟨h1, h2, h3, h6⟩ := h
  refine ⟨?_, ?_, fun s hs => ⟨?_, ?_, ?_, ?_⟩, fun s hs => ⟨?_, ?_⟩⟩
  · simp only [upd]; rw [if_neg (by omega)]; exact h1
  · simp only [upd]; exact if_pos trivial
  · have hs : s < P.1.1 := hs
    simp only [upd]; rw [if_neg (by omega)]; exact (h3 s hs).1
  · have hs : s < P.1.1 := hs
    simp only [upd]; rw [if_neg (by omega)]; exact (h3 s hs).2.1
  · have hs : s < P.1.1 := hs
    simp only [upd]; rw [if_neg (by omega)]; exact (h3 s hs).2.2.1
  · have hs : s < P.1.1 := hs
    simp only [upd]; rw [if_neg (by omega)]; exact (h3 s hs).2.2.2
  · have hs : s < P.1.2.1 := hs
    simp only [upd]; rw [if_neg (by omega)]; exact (h6 s hs).1
  · have hs : s < P.1.2.1 := hs
    simp only [upd]; rw [if_neg (by omega)]; exact (h6 s hs).2
theorem FrM.oA {l i : Nat} {w : Wd} {x : Int32} (h1 : 30 * l ≤ i) (h2 : i < 30 * l + 30) : FrM l w (sA w 33 (upd (w.2.2 33) i x)) := ⟨rfl, rfl, fun r hr => by simp [sA, hr], fun q hq => by simp only [sA, upd, reduceIte]; rw [if_neg (by omega)]⟩
theorem isM.fr {w u : Wd} {l l2 : Nat} {P : PT} (h : isM w l2 P) (hne : ¬ l = l2) (hF : FrM l w u) : isM u l2 P := by
  obtain ⟨h1, h2, h3, h4, h5, h6, h7⟩ := h
  have e : ∀ j, j < 30 → u.2.2 33 (30 * l2 + j) = w.2.2 33 (30 * l2 + j) := fun j hj => hF.2.2.2 _ (by omega)
  exact ⟨by rw [hF.1]; exact h1, by rw [hF.1]; exact h2, h3, h4, h5.shift h3 h4 e, by rw [hF.2.2.1 31 (by decide)]; exact h6, by rw [hF.2.2.1 32 (by decide)]; exact h7⟩
theorem isM.at {w : Wd} {l i : Nat} {P R : PT} {x : Int32} (h : isM w l P) (hn : R.1.1 = P.1.1) (hL : R.1.2.1 = P.1.2.1) (hk : ∀ s, s < P.1.1 → R.2 2 s = P.2 2 s) (hc : ∀ s, s < P.1.2.1 → R.2 6 s = P.2 6 s) (hR : rowR (upd (w.2.2 33) i x) (30 * l) R) : isM (sA w 33 (upd (w.2.2 33) i x)) l R := by
  obtain ⟨h1, h2, h3, h4, h5, h6, h7⟩ := h
  exact ⟨by rw [hn]; exact h1, by rw [hL]; exact h2, by omega, by omega, hR, fun s hs => by rw [hn] at hs; exact (h6 s hs).trans (hk s hs).symm, fun s hs => by rw [hL] at hs; exact (h7 s hs).trans (hc s hs).symm⟩
section VMW
variable {M : MD} {pc : Nat} {ls : LsT} {st : List Value} {w : Wd} {Q : Option Value → Wd → Prop} {P : PT} {l : Nat}
theorem vmw_0 (hM : isM w l P) (hl : l < 2) {i x : Int32} (k n : Nat) (hd : decode M.2.1 pc = .ok (.iastore, 1)) (hn : pc + 1 = n) (hi : i = nI (30 * l + k)) (hk : k < P.1.1) (h : ∀ u, isM u l (setP P 0 k x) → FrM l w u → V M n ls st u Q) : V M pc ls (.int x :: .int i :: .ref 33 :: st) w Q := by
  have h5 := hM.2.2.1
  have h4 := hM.2.2.2.1
  exact vw_X4_now (30 * l + k) n hd hn hi (by omega) (h _ (hM.at rfl rfl (fun s _ => by simp [setP]) (fun s _ => by simp [setP]) (hM.2.2.2.2.1.set0 h5 h4 hk)) (FrM.oA (by omega) (by omega)))
theorem vmw_1 (hM : isM w l P) (hl : l < 2) {i x : Int32} (k n : Nat) (hd : decode M.2.1 pc = .ok (.iastore, 1)) (hn : pc + 1 = n) (hi : i = nI (30 * l + 5 + k)) (hk : k < P.1.1) (h : ∀ u, isM u l (setP P 1 k x) → FrM l w u → V M n ls st u Q) : V M pc ls (.int x :: .int i :: .ref 33 :: st) w Q := by
  have h5 := hM.2.2.1
  have h4 := hM.2.2.2.1
  exact vw_X4_now (30 * l + 5 + k) n hd hn hi (by omega) (h _ (hM.at rfl rfl (fun s _ => by simp [setP]) (fun s _ => by simp [setP]) (hM.2.2.2.2.1.set1 h5 h4 hk)) (FrM.oA (by omega) (by omega)))
theorem vmw_3 (hM : isM w l P) (hl : l < 2) {i x : Int32} (k n : Nat) (hd : decode M.2.1 pc = .ok (.iastore, 1)) (hn : pc + 1 = n) (hi : i = nI (30 * l + 10 + k)) (hk : k < P.1.1) (h : ∀ u, isM u l (setP P 3 k x) → FrM l w u → V M n ls st u Q) : V M pc ls (.int x :: .int i :: .ref 33 :: st) w Q := by
  have h5 := hM.2.2.1
  have h4 := hM.2.2.2.1
  exact vw_X4_now (30 * l + 10 + k) n hd hn hi (by omega) (h _ (hM.at rfl rfl (fun s _ => by simp [setP]) (fun s _ => by simp [setP]) (hM.2.2.2.2.1.set3 h5 h4 hk)) (FrM.oA (by omega) (by omega)))
theorem vmw_4 (hM : isM w l P) (hl : l < 2) {i x : Int32} (k n : Nat) (hd : decode M.2.1 pc = .ok (.iastore, 1)) (hn : pc + 1 = n) (hi : i = nI (30 * l + 15 + k)) (hk : k < P.1.1) (h : ∀ u, isM u l (setP P 4 k x) → FrM l w u → V M n ls st u Q) : V M pc ls (.int x :: .int i :: .ref 33 :: st) w Q := by
  have h5 := hM.2.2.1
  have h4 := hM.2.2.2.1
  exact vw_X4_now (30 * l + 15 + k) n hd hn hi (by omega) (h _ (hM.at rfl rfl (fun s _ => by simp [setP]) (fun s _ => by simp [setP]) (hM.2.2.2.2.1.set4 h5 h4 hk)) (FrM.oA (by omega) (by omega)))
theorem vmw_5 (hM : isM w l P) (hl : l < 2) {i x : Int32} (k n : Nat) (hd : decode M.2.1 pc = .ok (.iastore, 1)) (hn : pc + 1 = n) (hi : i = nI (30 * l + 20 + k)) (hk : k < P.1.2.1) (h : ∀ u, isM u l (setP P 5 k x) → FrM l w u → V M n ls st u Q) : V M pc ls (.int x :: .int i :: .ref 33 :: st) w Q := by
  have h5 := hM.2.2.1
  have h4 := hM.2.2.2.1
  exact vw_X4_now (30 * l + 20 + k) n hd hn hi (by omega) (h _ (hM.at rfl rfl (fun s _ => by simp [setP]) (fun s _ => by simp [setP]) (hM.2.2.2.2.1.set5 h5 h4 hk)) (FrM.oA (by omega) (by omega)))
theorem vmw_7 (hM : isM w l P) (hl : l < 2) {i x : Int32} (k n : Nat) (hd : decode M.2.1 pc = .ok (.iastore, 1)) (hn : pc + 1 = n) (hi : i = nI (30 * l + 24 + k)) (hk : k < P.1.2.1) (h : ∀ u, isM u l (setP P 7 k x) → FrM l w u → V M n ls st u Q) : V M pc ls (.int x :: .int i :: .ref 33 :: st) w Q := by
  have h5 := hM.2.2.1
  have h4 := hM.2.2.2.1
  exact vw_X4_now (30 * l + 24 + k) n hd hn hi (by omega) (h _ (hM.at rfl rfl (fun s _ => by simp [setP]) (fun s _ => by simp [setP]) (hM.2.2.2.2.1.set7 h5 h4 hk)) (FrM.oA (by omega) (by omega)))
theorem vmw_week (hM : isM w l P) (hl : l < 2) {i x : Int32} (n : Nat) (hd : decode M.2.1 pc = .ok (.iastore, 1)) (hn : pc + 1 = n) (hi : i = nI (30 * l + 29)) (h : ∀ u, isM u l (weekP P x) → FrM l w u → V M n ls st u Q) : V M pc ls (.int x :: .int i :: .ref 33 :: st) w Q :=
  vw_X4_now (30 * l + 29) n hd hn hi (by omega) (h _ (hM.at rfl rfl (fun _ _ => rfl) (fun _ _ => rfl) (hM.2.2.2.2.1.week hM.2.2.1 hM.2.2.2.1)) (FrM.oA (by omega) (by omega)))
theorem vmr_week (hM : isM w l P) (hl : l < 2) {i : Int32} (n : Nat) (hd : decode M.2.1 pc = .ok (.iaload, 1)) (hn : pc + 1 = n) (hi : i = nI (30 * l + 29)) (h : V M n ls (.int P.1.2.2.1 :: st) w Q) : V M pc ls (.int i :: .ref 33 :: st) w Q := vl_X4_now (30 * l + 29) n hd hn hi (by omega) (by rw [hM.2.2.2.2.1.1]; exact h)
theorem vmw_damp (hM : isM w l P) (hl : l < 2) {i x : Int32} (n : Nat) (hd : decode M.2.1 pc = .ok (.iastore, 1)) (hn : pc + 1 = n) (hi : i = nI (30 * l + 28)) (h : ∀ u, isM u l (dampP P x) → FrM l w u → V M n ls st u Q) : V M pc ls (.int x :: .int i :: .ref 33 :: st) w Q :=
  vw_X4_now (30 * l + 28) n hd hn hi (by omega) (h _ (hM.at rfl rfl (fun _ _ => rfl) (fun _ _ => rfl) (hM.2.2.2.2.1.damp hM.2.2.1 hM.2.2.2.1)) (FrM.oA (by omega) (by omega)))
theorem vmr_damp (hM : isM w l P) (hl : l < 2) {i : Int32} (n : Nat) (hd : decode M.2.1 pc = .ok (.iaload, 1)) (hn : pc + 1 = n) (hi : i = nI (30 * l + 28)) (h : V M n ls (.int P.1.2.2.2 :: st) w Q) : V M pc ls (.int i :: .ref 33 :: st) w Q := vl_X4_now (30 * l + 28) n hd hn hi (by omega) (by rw [hM.2.2.2.2.1.2.1]; exact h)
end VMW

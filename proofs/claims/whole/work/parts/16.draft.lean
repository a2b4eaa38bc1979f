/-- a draft: what lies beyond the stamps and letters is empty -/
def isD (w : Wd) (b : Nat) (P : PT) : Prop := isC w b P ∧ (∀ s, s < 5 → P.1.1 ≤ s → px w b 3 s = 0) ∧ (∀ s, s < 5 → px w b 4 s = -9) ∧ (∀ s, s < 4 → px w b 7 s = 0)
def addS (P : PT) (t h k : Int32) : PT := ((P.1.1 + 1, P.1.2.1, P.1.2.2.1, P.1.2.2.2), fun j s => if s = P.1.1 ∧ j < 5 then (if j = 0 then 10 * t else if j = 1 then h else if j = 2 then k else if j = 3 then 0 else -9) else P.2 j s)
def addL (P : PT) (q c : Int32) : PT := ((P.1.1, P.1.2.1 + 1, P.1.2.2.1, P.1.2.2.2), fun j s => if s = P.1.2.1 ∧ 5 ≤ j then (if j = 5 then q else if j = 6 then c else 0) else P.2 j s)
def joinP (P : PT) (k m : Nat) : PT := setP (setP P 3 k (P.2 3 k ||| 1 <<< (nI m &&& 31))) 3 m ((setP P 3 k (P.2 3 k ||| 1 <<< (nI m &&& 31))).2 3 m ||| 1 <<< (nI k &&& 31))
theorem px_sA2 {w : Wd} {b j j' : Nat} {f : Nat → Int32} : px (sA w (ar b j) f) b j' = if j' = j then f else px w b j' := px_sA
theorem isD.oR {w : Wd} {b j : Nat} {P : PT} {x : Int32} (h : isD w b P) (hj : j < 8) : isD (sI w j x) b P := by
  have e : ∀ i, pn (sI w j x) b i = pn w b i := fun i => by
    unfold pn sI upd pj
    have : ¬ 8 + 4 * b + i = j := by omega
    simp [this]
  obtain ⟨⟨h1, h2, h3, h4, h5, h6, h7, h8⟩, h9⟩ := h
  exact ⟨⟨by rw [e]; exact h1, by rw [e]; exact h2, by rw [e]; exact h3, by rw [e]; exact h4, h5, h6, h7, h8⟩, h9⟩
def FrR (b : Nat) (w u : Wd) : Prop := (∀ j, (j < 3 ∨ 16 ≤ j ∨ (8 ≤ j ∧ (j < 8 + 4 * b ∨ 12 + 4 * b ≤ j))) → u.1 j = w.1 j) ∧ u.2.1 = w.2.1 ∧ (∀ r, (r < 7 + 8 * b ∨ 15 + 8 * b ≤ r) → u.2.2 r = w.2.2 r)
theorem FrR.rf {b : Nat} {w : Wd} : FrR b w w := ⟨fun _ _ => rfl, rfl, fun _ _ => rfl⟩
theorem FrR.tr {b : Nat} {w u v : Wd} (h1 : FrR b w u) (h2 : FrR b u v) : FrR b w v := ⟨fun j h => (h2.1 j h).trans (h1.1 j h), h2.2.1.trans h1.2.1, fun r h => (h2.2.2 r h).trans (h1.2.2 r h)⟩
theorem FrR.oI {b j : Nat} {w : Wd} {x : Int32} (h3 : 3 ≤ j) (hj : j < 8) : FrR b w (sI w j x) := ⟨fun i h => by simp only [sI, upd]; rw [if_neg (by omega)], rfl, fun _ _ => rfl⟩
theorem Fr.R {b : Nat} {w u : Wd} (hb : b < 2) (h : Fr b w u) : FrR b w u := ⟨fun j hj => h.1 j (by omega), h.2.1, h.2.2⟩
theorem Fr.rd {b : Nat} {w u : Wd} (h : Fr b w u) {j : Nat} (hj : j < 8) : u.1 j = w.1 j := h.1 j (by omega)
def P0 : PT := ((0, 0, 0, 0), fun _ _ => 0)
set_option maxHeartbeats 4000000 in
set_option maxRecDepth 100000 in
theorem c_X1_clear {b : Nat} (hb : b < 2) {w : Wd} {Q : Option Value → Wd → Prop} (hQ : ∀ u, isD u b P0 → Fr b w u → Q none u) : V mX1_clear 0 [some (.ref (pr b))] [] w Q := by
  refine la_1_0 1 dX1_clear_0 rfl ?_
  refine v_iconst (v := 0) 2 dX1_clear_1 rfl ki_0 ?_
  refine vs_X1_36 hb rfl 5 dX1_clear_2 rfl ?_
  refine la_1_0 6 dX1_clear_5 rfl ?_
  refine v_iconst (v := 0) 7 dX1_clear_6 rfl ki_0 ?_
  refine vs_X1_40 hb rfl 10 dX1_clear_7 rfl ?_
  refine la_1_0 11 dX1_clear_10 rfl ?_
  refine v_iconst (v := 0) 12 dX1_clear_11 rfl ki_0 ?_
  refine vs_X1_43 hb rfl 15 dX1_clear_12 rfl ?_
  refine la_1_0 16 dX1_clear_15 rfl ?_
  refine v_iconst (v := 0) 17 dX1_clear_16 rfl ki_0 ?_
  refine vs_X1_46 hb rfl 20 dX1_clear_17 rfl (Or.inl rfl) ?_
  refine la_1_0 21 dX1_clear_20 rfl ?_
  refine vg_X1_21 hb rfl 24 dX1_clear_21 rfl ?_
  refine v_iconst (v := 0) 25 dX1_clear_24 rfl ki_0 ?_
  refine v_cSN2 28 dX1_clear_25 rfl fvJ7_fill_53178 fsJ7_fill_53178 ml_X1_50 ⟨(Nat.le_of_ble_eq_true rfl), (Nat.le_of_ble_eq_true rfl)⟩ (Nat.le_of_ble_eq_true rfl) (Nat.le_of_ble_eq_true rfl) (c_fill (r := ar b 3) (by decide) (fun w kI kZ => saX1_joined hb kI kZ) (fun w f kI kZ => suX1_joined hb kI kZ) (fun u1 e1 F1 => ⟨rfl, ?_⟩)) rfl
  refine la_1_0 29 dX1_clear_28 rfl ?_
  refine vg_X1_24 hb rfl 32 dX1_clear_29 rfl ?_
  refine v_bipush (v := (-9)) 34 dX1_clear_32 rfl kb_m9 ?_
  refine v_cSN2 37 dX1_clear_34 rfl fvJ7_fill_53178 fsJ7_fill_53178 ml_X1_50 ⟨(Nat.le_of_ble_eq_true rfl), (Nat.le_of_ble_eq_true rfl)⟩ (Nat.le_of_ble_eq_true rfl) (Nat.le_of_ble_eq_true rfl) (c_fill (r := ar b 4) (by decide) (fun w kI kZ => saX1_on hb kI kZ) (fun w f kI kZ => suX1_on hb kI kZ) (fun u2 e2 F2 => ⟨rfl, ?_⟩)) rfl
  refine la_1_0 38 dX1_clear_37 rfl ?_
  refine vg_X1_33 hb rfl 41 dX1_clear_38 rfl ?_
  refine v_iconst (v := 0) 42 dX1_clear_41 rfl ki_0 ?_
  refine v_cSN2 45 dX1_clear_42 rfl fvJ7_fill_53178 fsJ7_fill_53178 ml_X1_50 ⟨(Nat.le_of_ble_eq_true rfl), (Nat.le_of_ble_eq_true rfl)⟩ (Nat.le_of_ble_eq_true rfl) (Nat.le_of_ble_eq_true rfl) (c_fill (r := ar b 7) (by decide) (fun w kI kZ => saX1_fate hb kI kZ) (fun w f kI kZ => suX1_fate hb kI kZ) (fun u3 e3 F3 => ⟨rfl, ?_⟩)) rfl
  refine v_vret dX1_clear_45 rfl ?_
  refine hQ _ ⟨⟨?_, ?_, ?_, ?_, by decide, by decide, fun j s _ h => absurd h (Nat.not_lt_zero s), fun j s _ _ h => absurd h (Nat.not_lt_zero s)⟩, fun s hs _ => ?_, fun s hs => ?_, fun s hs => ?_⟩ ?_
  · show u3.1 (pj b 0) = _; rw [F3.1, F2.1, F1.1]; show pn _ b 0 = _; simp only [pn_sI]; rfl
  · show u3.1 (pj b 1) = _; rw [F3.1, F2.1, F1.1]; show pn _ b 1 = _; simp only [pn_sI]; rfl
  · show u3.1 (pj b 2) = _; rw [F3.1, F2.1, F1.1]; show pn _ b 2 = _; simp only [pn_sI]; rfl
  · show u3.1 (pj b 3) = _; rw [F3.1, F2.1, F1.1]; show pn _ b 3 = _; simp only [pn_sI]; rfl
  · show u3.2.2 (ar b 3) s = _; rw [F3.2.2 _ (by unfold ar; omega), F2.2.2 _ (by unfold ar; omega)]; exact e1 s hs
  · show u3.2.2 (ar b 4) s = _; rw [F3.2.2 _ (by unfold ar; omega)]; exact e2 s hs
  · exact e3 s hs
  · exact ((((Fr.oI (by decide)).tr (Fr.oI (by decide))).tr (Fr.oI (by decide))).tr (Fr.oI (by decide))).tr ((F1.fr (by decide)).tr ((F2.fr (by decide)).tr (F3.fr (by decide))))
set_option maxHeartbeats 4000000 in
set_option maxRecDepth 100000 in
theorem c_X1_addStamp {b : Nat} (hb : b < 2) {w : Wd} {P : PT} (hD : isD w b P) (hn : P.1.1 < 5) {t h k : Int32} {Q : Option Value → Wd → Prop} (hQ : ∀ u, isD u b (addS P t h k) → Fr b w u → Q none u) : V mX1_addStamp 0 [some (.ref (pr b)), some (.int t), some (.int h), some (.int k)] [] w Q := by
  refine la_4_0 1 dX1_addStamp_0 rfl ?_
  refine vg_X1_36 hb rfl 4 dX1_addStamp_1 rfl ?_
  rw [hD.1.1]
  refine v_iconst (v := 5) 5 dX1_addStamp_4 rfl ki_5 ?_
  refine v_icmp_ge 51 8 dX1_addStamp_5 rfl rfl (fun h5 => ?_) (fun h5 => ?_)
  · exact absurd h5 (by rw [show (5 : Int32) = nI 5 from rfl, nI_leI (by omega) (by omega)]; omega)
  · refine la_4_0 9 dX1_addStamp_8 rfl ?_
    refine vg_X1_9 hb rfl 12 dX1_addStamp_9 rfl ?_
    refine la_4_0 13 dX1_addStamp_12 rfl ?_
    refine vg_X1_36 hb rfl 16 dX1_addStamp_13 rfl ?_
    refine v_bipush (v := 10) 18 dX1_addStamp_16 rfl kb_10 ?_
    refine li_4_1 19 dX1_addStamp_18 rfl ?_
    refine v_imul 20 dX1_addStamp_19 rfl ?_
    refine vw_X1_age hb P.1.1 21 dX1_addStamp_20 rfl hD.1.1 hn ?_
    refine la_4_0 22 dX1_addStamp_21 rfl ?_
    refine vg_X1_15 hb rfl 25 dX1_addStamp_22 rfl ?_
    refine la_4_0 26 dX1_addStamp_25 rfl ?_
    refine vg_X1_36 hb rfl 29 dX1_addStamp_26 rfl ?_
    refine li_4_2 30 dX1_addStamp_29 rfl ?_
    refine vw_X1_health hb P.1.1 31 dX1_addStamp_30 rfl hD.1.1 hn ?_
    refine la_4_0 32 dX1_addStamp_31 rfl ?_
    refine vg_X1_18 hb rfl 35 dX1_addStamp_32 rfl ?_
    refine la_4_0 36 dX1_addStamp_35 rfl ?_
    refine vg_X1_36 hb rfl 39 dX1_addStamp_36 rfl ?_
    refine li_4_3 40 dX1_addStamp_39 rfl ?_
    refine vw_X1_kind hb P.1.1 41 dX1_addStamp_40 rfl hD.1.1 hn ?_
    refine la_4_0 42 dX1_addStamp_41 rfl ?_
    refine v_dup 43 dX1_addStamp_42 rfl rfl ?_
    refine vg_X1_36 hb rfl 46 dX1_addStamp_43 rfl ?_
    simp only [pn_sA]
    rw [hD.1.1]
    refine v_iconst (v := 1) 47 dX1_addStamp_46 rfl ki_1 ?_
    refine v_iadd 48 dX1_addStamp_47 rfl ?_
    refine vs_X1_36 hb rfl 51 dX1_addStamp_48 rfl ?_
    refine v_vret dX1_addStamp_51 rfl ?_
    obtain ⟨⟨h1, h2, h3, h4, h5', h6, h7, h8⟩, h9, h10, h11⟩ := hD
    refine hQ _ ⟨⟨?_, ?_, ?_, ?_, by show P.1.1 + 1 ≤ 5; omega, h6, fun j s hj hs => ?_, fun j s hj hj2 hs => ?_⟩, fun s hs hs2 => ?_, fun s hs => ?_, fun s hs => ?_⟩ ?_
    · rw [pn_sI, if_pos rfl]; exact nI_1 P.1.1
    · rw [pn_sI, if_neg (by decide)]; exact h2
    · rw [pn_sI, if_neg (by decide)]; exact h3
    · rw [pn_sI, if_neg (by decide)]; exact h4
    · rw [px_sI]
      have hs' : s < P.1.1 + 1 := hs
      have h' := h7 j s hj
      by_cases e : s = P.1.1
      · rcases (show j = 0 ∨ j = 1 ∨ j = 2 ∨ j = 3 ∨ j = 4 by omega) with rfl | rfl | rfl | rfl | rfl
        · simp [px_sA, addS, upd, e]
        · simp [px_sA, addS, upd, e]
        · simp [px_sA, addS, upd, e]
        · simp [px_sA, addS, e]; exact h9 _ hn (Nat.le_refl _)
        · simp [px_sA, addS, e]; exact h10 _ hn
      · rcases (show j = 0 ∨ j = 1 ∨ j = 2 ∨ j = 3 ∨ j = 4 by omega) with rfl | rfl | rfl | rfl | rfl
        all_goals (simp [px_sA, addS, upd, e]; exact h' (by omega))
    · rw [px_sI]
      simp only [px_sA, addS]
      rw [if_neg (by omega), if_neg (by omega), if_neg (by omega), if_neg (by omega)]
      exact h8 j s hj hj2 hs
    · rw [px_sI]; simp only [px_sA, reduceIte]; exact h9 s hs (by have h0 : P.1.1 + 1 ≤ s := hs2; omega)
    · rw [px_sI]; simp only [px_sA, reduceIte]; exact h10 s hs
    · rw [px_sI]; simp only [px_sA, reduceIte]; exact h11 s hs
    · exact ((((Fr.oA (by decide)).tr (Fr.oA (by decide))).tr (Fr.oA (by decide))).tr (Fr.oI (by decide)))
set_option maxHeartbeats 4000000 in
set_option maxRecDepth 100000 in
theorem c_X1_addLetter {b : Nat} (hb : b < 2) {w : Wd} {P : PT} (hD : isD w b P) (hn : P.1.2.1 < 4) {t h : Int32} {Q : Option Value → Wd → Prop} (hQ : ∀ u, isD u b (addL P t h) → Fr b w u → Q none u) : V mX1_addLetter 0 [some (.ref (pr b)), some (.int t), some (.int h)] [] w Q := by
  refine la_3_0 1 dX1_addLetter_0 rfl ?_
  refine vg_X1_40 hb rfl 4 dX1_addLetter_1 rfl ?_
  rw [hD.1.2.1]
  refine v_iconst (v := 4) 5 dX1_addLetter_4 rfl ki_4 ?_
  refine v_icmp_ge 38 8 dX1_addLetter_5 rfl rfl (fun h5 => ?_) (fun h5 => ?_)
  · exact absurd h5 (by rw [show (4 : Int32) = nI 4 from rfl, nI_leI (by omega) (by omega)]; omega)
  · refine la_3_0 9 dX1_addLetter_8 rfl ?_
    refine vg_X1_27 hb rfl 12 dX1_addLetter_9 rfl ?_
    refine la_3_0 13 dX1_addLetter_12 rfl ?_
    refine vg_X1_40 hb rfl 16 dX1_addLetter_13 rfl ?_
    refine li_3_1 17 dX1_addLetter_16 rfl ?_
    refine vw_X1_left hb P.1.2.1 18 dX1_addLetter_17 rfl hD.1.2.1 hn ?_
    refine la_3_0 19 dX1_addLetter_18 rfl ?_
    refine vg_X1_30 hb rfl 22 dX1_addLetter_19 rfl ?_
    refine la_3_0 23 dX1_addLetter_22 rfl ?_
    refine vg_X1_40 hb rfl 26 dX1_addLetter_23 rfl ?_
    refine li_3_2 27 dX1_addLetter_26 rfl ?_
    refine vw_X1_cost hb P.1.2.1 28 dX1_addLetter_27 rfl hD.1.2.1 hn ?_
    refine la_3_0 29 dX1_addLetter_28 rfl ?_
    refine v_dup 30 dX1_addLetter_29 rfl rfl ?_
    refine vg_X1_40 hb rfl 33 dX1_addLetter_30 rfl ?_
    simp only [pn_sA]
    rw [hD.1.2.1]
    refine v_iconst (v := 1) 34 dX1_addLetter_33 rfl ki_1 ?_
    refine v_iadd 35 dX1_addLetter_34 rfl ?_
    refine vs_X1_40 hb rfl 38 dX1_addLetter_35 rfl ?_
    refine v_vret dX1_addLetter_38 rfl ?_
    obtain ⟨⟨h1, h2, h3, h4, h5', h6, h7, h8⟩, h9, h10, h11⟩ := hD
    refine hQ _ ⟨⟨?_, ?_, ?_, ?_, h5', by show P.1.2.1 + 1 ≤ 4; omega, fun j s hj hs => ?_, fun j s hj hj2 hs => ?_⟩, fun s hs hs2 => ?_, fun s hs => ?_, fun s hs => ?_⟩ ?_
    · rw [pn_sI, if_neg (by decide)]; exact h1
    · rw [pn_sI, if_pos rfl]; exact nI_1 P.1.2.1
    · rw [pn_sI, if_neg (by decide)]; exact h3
    · rw [pn_sI, if_neg (by decide)]; exact h4
    · rw [px_sI]
      simp only [px_sA, addL]
      rw [if_neg (by omega), if_neg (by omega), if_neg (by omega)]
      exact h7 j s hj hs
    · rw [px_sI]
      have hs' : s < P.1.2.1 + 1 := hs
      have h' := h8 j s hj hj2
      by_cases e : s = P.1.2.1
      · rcases (show j = 5 ∨ j = 6 ∨ j = 7 by omega) with rfl | rfl | rfl
        · simp [px_sA, addL, upd, e]
        · simp [px_sA, addL, upd, e]
        · simp [px_sA, addL, e]; exact h11 _ hn
      · rcases (show j = 5 ∨ j = 6 ∨ j = 7 by omega) with rfl | rfl | rfl
        all_goals (simp [px_sA, addL, upd, e]; exact h' (by omega))
    · rw [px_sI]; simp only [px_sA, reduceIte]; exact h9 s hs hs2
    · rw [px_sI]; simp only [px_sA, reduceIte]; exact h10 s hs
    · rw [px_sI]; simp only [px_sA, reduceIte]; exact h11 s hs
    · exact (((Fr.oA (by decide)).tr (Fr.oA (by decide))).tr (Fr.oI (by decide)))
theorem isD.set3 {w : Wd} {b : Nat} {P : PT} (h : isD w b P) {k : Nat} (hk : k < P.1.1) {x : Int32} {u : Wd} (hC : isC u b (setP P 3 k x)) (hu : u = sA w (ar b 3) (upd (px w b 3) k x)) : isD u b (setP P 3 k x) := by
  obtain ⟨-, h9, h10, h11⟩ := h
  subst hu
  refine ⟨hC, fun s hs hs2 => ?_, fun s hs => ?_, fun s hs => ?_⟩
  · have h0 : P.1.1 ≤ s := hs2
    rw [px_sA, if_pos rfl]; simp only [upd]; rw [if_neg (by omega)]; exact h9 s hs h0
  · rw [px_sA, if_neg (by decide)]; exact h10 s hs
  · rw [px_sA, if_neg (by decide)]; exact h11 s hs
set_option maxHeartbeats 4000000 in
set_option maxRecDepth 100000 in
theorem c_X1_joinTwo {b : Nat} (hb : b < 2) {w : Wd} {P : PT} (hD : isD w b P) {k m : Nat} (hk : k < P.1.1) (hm : m < P.1.1) {Q : Option Value → Wd → Prop} (hQ : ∀ u, isD u b (joinP P k m) → Fr b w u → Q none u) : V mX1_joinTwo 0 [some (.ref (pr b)), some (.int (nI k)), some (.int (nI m))] [] w Q := by
  refine la_3_0 1 dX1_joinTwo_0 rfl ?_
  refine vg_X1_21 hb rfl 4 dX1_joinTwo_1 rfl ?_
  refine li_3_1 5 dX1_joinTwo_4 rfl ?_
  refine v_dup2 6 dX1_joinTwo_5 rfl rfl rfl ?_
  refine vl_X1_joined hb _ 7 dX1_joinTwo_6 rfl rfl (by have := hD.1.2.2.2.2.1; omega) ?_
  refine v_iconst (v := 1) 8 dX1_joinTwo_7 rfl ki_1 ?_
  refine li_3_2 9 dX1_joinTwo_8 rfl ?_
  refine v_ishl 10 dX1_joinTwo_9 rfl ?_
  refine v_ior 11 dX1_joinTwo_10 rfl ?_
  refine vw_X1_joined hb _ 12 dX1_joinTwo_11 rfl rfl (by have := hD.1.2.2.2.2.1; omega) ?_
  rw [hD.1.2.2.2.2.2.2.1 3 k (by decide) hk]
  have hD1 := hD.set3 hk (hD.1.setA) rfl (x := P.2 3 k ||| 1 <<< (nI m &&& 31))
  revert hD1
  generalize hu1 : sA w (ar b 3) (upd (px w b 3) k (P.2 3 k ||| 1 <<< (nI m &&& 31))) = u1
  intro hD1
  have hF1 : Fr b w u1 := by rw [← hu1]; exact Fr.oA (by decide)
  refine la_3_0 13 dX1_joinTwo_12 rfl ?_
  refine vg_X1_21 hb rfl 16 dX1_joinTwo_13 rfl ?_
  refine li_3_2 17 dX1_joinTwo_16 rfl ?_
  refine v_dup2 18 dX1_joinTwo_17 rfl rfl rfl ?_
  refine vl_X1_joined hb _ 19 dX1_joinTwo_18 rfl rfl (by have := hD.1.2.2.2.2.1; omega) ?_
  refine v_iconst (v := 1) 20 dX1_joinTwo_19 rfl ki_1 ?_
  refine li_3_1 21 dX1_joinTwo_20 rfl ?_
  refine v_ishl 22 dX1_joinTwo_21 rfl ?_
  refine v_ior 23 dX1_joinTwo_22 rfl ?_
  refine vw_X1_joined hb _ 24 dX1_joinTwo_23 rfl rfl (by have := hD.1.2.2.2.2.1; omega) ?_
  rw [hD1.1.2.2.2.2.2.2.1 3 m (by decide) hm]
  refine v_vret dX1_joinTwo_24 rfl ?_
  exact hQ _ (hD1.set3 hm (hD1.1.setA) rfl) (hF1.tr (Fr.oA (by decide)))

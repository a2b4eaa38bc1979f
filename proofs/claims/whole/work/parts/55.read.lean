def FrT (w u : Wd) : Prop := (∀ j, ¬ (18 ≤ j ∧ j < 20) → ¬ (21 ≤ j ∧ j < 23) → u.1 j = w.1 j) ∧ u.2.1 = w.2.1 ∧ ∀ r, ¬ (34 ≤ r ∧ r < 37) → u.2.2 r = w.2.2 r
theorem FrT.rf {w : Wd} : FrT w w := ⟨fun _ _ _ => rfl, rfl, fun _ _ => rfl⟩
theorem FrT.tr {w u v : Wd} (h1 : FrT w u) (h2 : FrT u v) : FrT w v := ⟨fun j a b => (h2.1 j a b).trans (h1.1 j a b), h2.2.1.trans h1.2.1, fun r h => (h2.2.2 r h).trans (h1.2.2 r h)⟩
theorem FrA.T {q : Nat} {w u : Wd} (hq : 34 ≤ q ∧ q < 37) (h : FrA q w u) : FrT w u := ⟨fun j _ _ => by rw [h.1], h.2.1, fun r hr => h.2.2 r (fun e => hr (by omega))⟩
theorem FrT.ofI {w u : Wd} {j : Nat} (hj : (18 ≤ j ∧ j < 20) ∨ (21 ≤ j ∧ j < 23)) (b : ∀ q, ¬ q = j → u.1 q = w.1 q) (c : u.2 = w.2) : FrT w u := ⟨fun q h1 h2 => b q (fun e => by omega), by rw [c], fun r _ => by rw [c]⟩
theorem vI {M : MD} {pc : Nat} {ls : LsT} {st : List Value} {Q : Option Value → Wd → Prop} {j : Nat} {x : Int32} {w : Wd} (h : ∀ u : Wd, u.1 j = x → (∀ q, ¬ q = j → u.1 q = w.1 q) → u.2 = w.2 → V M pc ls st u Q) : V M pc ls st (sI w j x) Q := h _ (by simp [sI, upd]) (fun q hq => by simp [sI, upd, hq]) rfl
/-- reading: at i, the fault so far, stamps and letters read -/
def RD (u : Wd) (x : Nat → Int32) (n i : Nat) (ft : Int32) (ns nl : Nat) : Prop := u.1 20 = nI n ∧ (∀ j, j < n → u.2.2 37 j = x j) ∧ u.1 21 = nI i ∧ u.1 22 = ft ∧ u.1 18 = nI ns ∧ u.1 19 = nI nl
theorem RD.fA {w u : Wd} {x : Nat → Int32} {n i ns nl r : Nat} {ft : Int32} (h : RD w x n i ft ns nl) (hr : ¬ 37 = r) (hF : FrA r w u) : RD u x n i ft ns nl := by
  obtain ⟨a, b, c, d, e, f⟩ := h
  refine ⟨by rw [hF.1]; exact a, fun j hj => by rw [hF.2.2 37 hr]; exact b j hj, by rw [hF.1]; exact c, by rw [hF.1]; exact d, by rw [hF.1]; exact e, by rw [hF.1]; exact f⟩
theorem RD.iA {w u : Wd} {x : Nat → Int32} {n i ns nl : Nat} {ft : Int32} (h : RD w x n i ft ns nl) {k : Nat} (a : u.1 21 = nI k) (b : ∀ q, ¬ q = 21 → u.1 q = w.1 q) (c : u.2 = w.2) : RD u x n k ft ns nl := ⟨(b 20 (by decide)).trans h.1, fun j hj => by rw [c]; exact h.2.1 j hj, a, (b 22 (by decide)).trans h.2.2.2.1, (b 18 (by decide)).trans h.2.2.2.2.1, (b 19 (by decide)).trans h.2.2.2.2.2⟩
theorem RD.iF {w u : Wd} {x : Nat → Int32} {n i ns nl : Nat} {ft : Int32} (h : RD w x n i ft ns nl) {f : Int32} (a : u.1 22 = f) (b : ∀ q, ¬ q = 22 → u.1 q = w.1 q) (c : u.2 = w.2) : RD u x n i f ns nl := ⟨(b 20 (by decide)).trans h.1, fun j hj => by rw [c]; exact h.2.1 j hj, (b 21 (by decide)).trans h.2.2.1, a, (b 18 (by decide)).trans h.2.2.2.2.1, (b 19 (by decide)).trans h.2.2.2.2.2⟩
theorem RD.iS {w u : Wd} {x : Nat → Int32} {n i ns nl : Nat} {ft : Int32} (h : RD w x n i ft ns nl) {k : Nat} (a : u.1 18 = nI k) (b : ∀ q, ¬ q = 18 → u.1 q = w.1 q) (c : u.2 = w.2) : RD u x n i ft k nl := ⟨(b 20 (by decide)).trans h.1, fun j hj => by rw [c]; exact h.2.1 j hj, (b 21 (by decide)).trans h.2.2.1, (b 22 (by decide)).trans h.2.2.2.1, a, (b 19 (by decide)).trans h.2.2.2.2.2⟩
theorem RD.iL {w u : Wd} {x : Nat → Int32} {n i ns nl : Nat} {ft : Int32} (h : RD w x n i ft ns nl) {k : Nat} (a : u.1 19 = nI k) (b : ∀ q, ¬ q = 19 → u.1 q = w.1 q) (c : u.2 = w.2) : RD u x n i ft ns k := ⟨(b 20 (by decide)).trans h.1, fun j hj => by rw [c]; exact h.2.1 j hj, (b 21 (by decide)).trans h.2.2.1, (b 22 (by decide)).trans h.2.2.2.1, (b 18 (by decide)).trans h.2.2.2.2.1, a⟩
theorem neg9 (d : Nat) (hd : d < 10) (h : (-9 : Int32) = nI d) : False := by
  have dec : ∀ d, d < 10 → ¬ (-9 : Int32) = nI d := by decide
  exact dec d hd h
theorem n9Q : ¬ inQ (-9) (9 + 1) := fun ⟨d, hd, e⟩ => neg9 d hd e
set_option maxHeartbeats 4000000 in
set_option maxRecDepth 100000 in
theorem c_fig {w : Wd} {x : Nat → Int32} {n i ns nl : Nat} (R : RD w x n i (-9) ns nl) (hn : n ≤ 48) (hi : i ≤ n) {A : Int32} {Q : Option Value → Wd → Prop} (hT : ∀ d u, i < n → d < 10 → x i - 48 = nI d → bit A d = true → RD u x n (i + 1) (-9) ns nl → FrT w u → u.2 = w.2 → Q (some (.int (nI d))) u) (hF : ∀ u, (i = n ∨ (i < n ∧ ¬ ∃ d, d < 10 ∧ x i - 48 = nI d ∧ bit A d = true)) → RD u x n i (nI i) ns nl → FrT w u → u.2 = w.2 → Q (some (.int 0)) u) : V mX4_figureOf 0 [some (.ref 1), some (.int A), none] [] w Q := by
  have key : ∀ v : Int32, ((i < n ∧ v = x i - 48) ∨ (i = n ∧ v = -9)) → V mX4_figureOf 38 [some (.ref 1), some (.int A), some (.int v)] [] w Q := by
    intro v hv
    refine li_3_2 39 dX4_figureOf_38 rfl ?_
    refine v_i2l 40 dX4_figureOf_39 rfl ?_
    refine v_lconst (v := 0) 41 dX4_figureOf_40 rfl rfl ?_
    refine v_ldc2 44 dX4_figureOf_41 rfl kl_X4_69 ?_
    refine v_cSI3 47 dX4_figureOf_44 rfl fvX4_in fsX4_in ml_X4_56 ⟨(Nat.le_of_ble_eq_true rfl), (Nat.le_of_ble_eq_true rfl)⟩ (Nat.le_of_ble_eq_true rfl) (Nat.le_of_ble_eq_true rfl) (c_X4_in (fun q44 => ⟨_, rfl, ?_⟩) (fun q44 => ⟨_, rfl, ?_⟩)) rfl
    · obtain ⟨d, hd, rfl⟩ := inQ_lL (c := 9) (by decide) rfl q44
      refine v_if_eq 58 50 dX4_figureOf_47 rfl rfl (fun h => absurd h (by decide)) (fun _ => ?_)
      refine li_3_1 51 dX4_figureOf_50 rfl ?_
      refine li_3_2 52 dX4_figureOf_51 rfl ?_
      refine v_cSI2 55 dX4_figureOf_52 rfl fvX4_has fsX4_has ml_X4_71 ⟨(Nat.le_of_ble_eq_true rfl), (Nat.le_of_ble_eq_true rfl)⟩ (Nat.le_of_ble_eq_true rfl) (Nat.le_of_ble_eq_true rfl) (c_X4_has (fun q52 => ⟨_, rfl, ?_⟩) (fun q52 => ⟨_, rfl, ?_⟩)) rfl
      · refine v_if_ne 84 58 dX4_figureOf_55 rfl rfl (fun _ => ?_) (fun h => absurd h (by decide))
        refine la_3_0 85 dX4_figureOf_84 rfl ?_
        refine v_dup 86 dX4_figureOf_85 rfl rfl ?_
        refine vg_X4_66 rfl 89 dX4_figureOf_86 rfl ?_
        rw [R.2.2.1]
        refine v_iconst (v := 1) 90 dX4_figureOf_89 rfl ki_1 ?_
        refine v_iadd 91 dX4_figureOf_90 rfl ?_
        refine vs_X4_66 rfl 94 dX4_figureOf_91 rfl ?_
        refine vI (fun u a b c => ?_)
        refine li_3_2 95 dX4_figureOf_94 rfl ?_
        refine v_iret dX4_figureOf_95 rfl ?_
        rw [nI_1] at a
        rcases hv with ⟨h1, h2⟩ | ⟨h1, h2⟩
        · exact hT d u h1 hd h2.symm q52 (R.iA a b c) (FrT.ofI (j := 21) (by omega) b c) c
        · exact (neg9 d hd h2.symm).elim
      · refine v_if_ne 84 58 dX4_figureOf_55 rfl rfl (fun h => absurd rfl h) (fun _ => ?_)
        refine la_3_0 59 dX4_figureOf_58 rfl ?_
        refine la_3_0 60 dX4_figureOf_59 rfl ?_
        refine vg_X4_63 rfl 63 dX4_figureOf_60 rfl ?_
        rw [R.2.2.2.1]
        refine v_bipush (v := (-9)) 65 dX4_figureOf_63 rfl kb_m9 ?_
        refine v_icmp_ne 75 68 dX4_figureOf_65 rfl rfl (fun h65 => ?_) (fun h65 => ?_)
        · exact absurd rfl h65
        · refine la_3_0 69 dX4_figureOf_68 rfl ?_
          refine vg_X4_66 rfl 72 dX4_figureOf_69 rfl ?_
          rw [R.2.2.1]
          refine v_goto 79 dX4_figureOf_72 rfl ?_
          refine vs_X4_63 rfl 82 dX4_figureOf_79 rfl ?_
          refine vI (fun u a b c => ?_)
          refine v_iconst (v := 0) 83 dX4_figureOf_82 rfl ki_0 ?_
          refine v_iret dX4_figureOf_83 rfl ?_
          rcases hv with ⟨h1, h2⟩ | ⟨h1, h2⟩
          · exact hF u (Or.inr ⟨h1, fun ⟨d2, k1, k2, k3⟩ => by
              rw [← h2] at k2
              rw [nI_inj (by omega) (by omega) k2, k3] at q52
              cases q52⟩) (R.iF a b c) (FrT.ofI (j := 22) (by omega) b c) c
          · exact (neg9 d hd h2.symm).elim
    · refine v_if_eq 58 50 dX4_figureOf_47 rfl rfl (fun _ => ?_) (fun h => absurd rfl h)
      refine la_3_0 59 dX4_figureOf_58 rfl ?_
      refine la_3_0 60 dX4_figureOf_59 rfl ?_
      refine vg_X4_63 rfl 63 dX4_figureOf_60 rfl ?_
      rw [R.2.2.2.1]
      refine v_bipush (v := (-9)) 65 dX4_figureOf_63 rfl kb_m9 ?_
      refine v_icmp_ne 75 68 dX4_figureOf_65 rfl rfl (fun h65 => ?_) (fun h65 => ?_)
      · exact absurd rfl h65
      · refine la_3_0 69 dX4_figureOf_68 rfl ?_
        refine vg_X4_66 rfl 72 dX4_figureOf_69 rfl ?_
        rw [R.2.2.1]
        refine v_goto 79 dX4_figureOf_72 rfl ?_
        refine vs_X4_63 rfl 82 dX4_figureOf_79 rfl ?_
        refine vI (fun u a b c => ?_)
        refine v_iconst (v := 0) 83 dX4_figureOf_82 rfl ki_0 ?_
        refine v_iret dX4_figureOf_83 rfl ?_
        rcases hv with ⟨h1, h2⟩ | ⟨h1, h2⟩
        · exact hF u (Or.inr ⟨h1, fun ⟨d2, k1, k2, k3⟩ => nQ_lL (c := 9) (by decide) rfl q44 ⟨d2, k1, h2.trans k2⟩⟩) (R.iF a b c) (FrT.ofI (j := 22) (by omega) b c) c
        · exact hF u (Or.inl h1) (R.iF a b c) (FrT.ofI (j := 22) (by omega) b c) c
  refine la_3_0 1 dX4_figureOf_0 rfl ?_
  refine vg_X4_63 rfl 4 dX4_figureOf_1 rfl ?_
  rw [R.2.2.2.1]
  refine v_bipush (v := (-9)) 6 dX4_figureOf_4 rfl kb_m9 ?_
  refine v_icmp_ne 35 9 dX4_figureOf_6 rfl rfl (fun h6 => ?_) (fun h6 => ?_)
  · exact absurd rfl h6
  · refine la_3_0 10 dX4_figureOf_9 rfl ?_
    refine vg_X4_66 rfl 13 dX4_figureOf_10 rfl ?_
    refine la_3_0 14 dX4_figureOf_13 rfl ?_
    refine vg_X4_60 rfl 17 dX4_figureOf_14 rfl ?_
    rw [R.2.2.1, R.1]
    refine v_icmp_ge 35 20 dX4_figureOf_17 rfl rfl (fun h17 => ?_) (fun h17 => ?_)
    · have e17 := ge_eq h17 hi (by omega)
      refine v_bipush (v := (-9)) 37 dX4_figureOf_35 rfl kb_m9 ?_
      refine si_3_2 rfl 38 dX4_figureOf_37 rfl rfl ?_
      exact key _ (Or.inr ⟨e17, rfl⟩)
    · have hlt := ge_lt h17 (by omega) (by omega)
      refine la_3_0 21 dX4_figureOf_20 rfl ?_
      refine vg_X4_28 rfl 24 dX4_figureOf_21 rfl ?_
      refine la_3_0 25 dX4_figureOf_24 rfl ?_
      refine vg_X4_66 rfl 28 dX4_figureOf_25 rfl ?_
      rw [R.2.2.1]
      refine vl_X4_text i 29 dX4_figureOf_28 rfl rfl (by omega) ?_
      rw [R.2.1 i hlt]
      refine v_bipush (v := 48) 31 dX4_figureOf_29 rfl kb_48 ?_
      refine v_isub 32 dX4_figureOf_31 rfl ?_
      refine v_goto 37 dX4_figureOf_32 rfl ?_
      refine si_3_2 rfl 38 dX4_figureOf_37 rfl rfl ?_
      exact key _ (Or.inl ⟨hlt, rfl⟩)
set_option maxHeartbeats 4000000 in
set_option maxRecDepth 100000 in
theorem c_fig9 {w : Wd} {x : Nat → Int32} {n i ns nl : Nat} {ft : Int32} (R : RD w x n i ft ns nl) (h9 : ¬ ft = -9) {A : Int32} {Q : Option Value → Wd → Prop} (hQ : ∀ u, RD u x n i ft ns nl → FrT w u → u.2 = w.2 → Q (some (.int 0)) u) : V mX4_figureOf 0 [some (.ref 1), some (.int A), none] [] w Q := by
  refine la_3_0 1 dX4_figureOf_0 rfl ?_
  refine vg_X4_63 rfl 4 dX4_figureOf_1 rfl ?_
  rw [R.2.2.2.1]
  refine v_bipush (v := (-9)) 6 dX4_figureOf_4 rfl kb_m9 ?_
  refine v_icmp_ne 35 9 dX4_figureOf_6 rfl rfl (fun h6 => ?_) (fun h6 => ?_)
  · refine v_bipush (v := (-9)) 37 dX4_figureOf_35 rfl kb_m9 ?_
    refine si_3_2 rfl 38 dX4_figureOf_37 rfl rfl ?_
    refine li_3_2 39 dX4_figureOf_38 rfl ?_
    refine v_i2l 40 dX4_figureOf_39 rfl ?_
    refine v_lconst (v := 0) 41 dX4_figureOf_40 rfl rfl ?_
    refine v_ldc2 44 dX4_figureOf_41 rfl kl_X4_69 ?_
    refine v_cSI3 47 dX4_figureOf_44 rfl fvX4_in fsX4_in ml_X4_56 ⟨(Nat.le_of_ble_eq_true rfl), (Nat.le_of_ble_eq_true rfl)⟩ (Nat.le_of_ble_eq_true rfl) (Nat.le_of_ble_eq_true rfl) (c_X4_in (fun q44 => ⟨_, rfl, ?_⟩) (fun q44 => ⟨_, rfl, ?_⟩)) rfl
    · exact (n9Q (inQ_lL (c := 9) (by decide) rfl q44)).elim
    · refine v_if_eq 58 50 dX4_figureOf_47 rfl rfl (fun _ => ?_) (fun h => absurd rfl h)
      refine la_3_0 59 dX4_figureOf_58 rfl ?_
      refine la_3_0 60 dX4_figureOf_59 rfl ?_
      refine vg_X4_63 rfl 63 dX4_figureOf_60 rfl ?_
      rw [R.2.2.2.1]
      refine v_bipush (v := (-9)) 65 dX4_figureOf_63 rfl kb_m9 ?_
      refine v_icmp_ne 75 68 dX4_figureOf_65 rfl rfl (fun h65 => ?_) (fun h65 => ?_)
      · refine la_3_0 76 dX4_figureOf_75 rfl ?_
        refine vg_X4_63 rfl 79 dX4_figureOf_76 rfl ?_
        rw [R.2.2.2.1]
        refine vs_X4_63 rfl 82 dX4_figureOf_79 rfl ?_
        refine vI (fun u a b c => ?_)
        refine v_iconst (v := 0) 83 dX4_figureOf_82 rfl ki_0 ?_
        refine v_iret dX4_figureOf_83 rfl ?_
        exact hQ u (R.iF a b c) (FrT.ofI (j := 22) (by omega) b c) c
      · exact absurd h65 h9
  · exact absurd h6 h9
def leftF (n : Nat) (J : Int32) (k : Nat) : Int32 := ((1 : Int32) <<< (nI n &&& 31) - 1) &&& (J ^^^ (-1)) &&& ((1 : Int32) <<< (nI k &&& 31) ^^^ (-1))
def flP (P : PT) (i : Nat) : Int32 := orB (fun s => decide (¬ leftF P.1.1 (P.2 3 s) s = 0)) i
theorem left_z : ∀ n, n < 6 → ∀ k, k < 5 → ∀ J, J < 32 → (k < n ∧ J < 2 ^ n) → (leftF n (nI J) k = 0 ↔ nI J ||| 1 <<< (nI k &&& 31) = 1 <<< (nI n &&& 31) - 1) := by decide +kernel
def leftC (n k J m : Nat) : Bool := !(decide (k < n) && decide (J < 2 ^ n)) || (bit (leftF n (nI J) k) m == (decide (m < n) && decide (¬ k = m) && !bit (nI J) m))
theorem left_b0 : ∀ n, n < 6 → ∀ k, k < 5 → ∀ J, J < 32 → ∀ m, m < 10 → leftC n k J m = true := by decide +kernel
theorem left_b (n : Nat) (hn : n < 6) (k : Nat) (hk : k < 5) (J : Nat) (hJ : J < 32) (m : Nat) (hm : m < 10) (h : k < n ∧ J < 2 ^ n) : bit (leftF n (nI J) k) m = true ↔ m < n ∧ ¬ k = m ∧ bit (nI J) m = false := by
  have e := left_b0 n hn k hk J hJ m hm
  simp only [leftC, h.1, h.2, decide_true, Bool.and_self, Bool.not_true, Bool.false_or, beq_iff_eq] at e
  rw [e]
  simp [and_assoc]
theorem fl_s {P : PT} (hP : drP P) {k : Nat} (hk : k < P.1.1) : ¬ leftF P.1.1 (P.2 3 k) k = 0 ↔ someQ P (nI k) := by
  have h5 := hP.1.1
  have hp := (p2_b P.1.1 (by omega)).1
  rw [someQ_i h5 hk]
  obtain ⟨⟨q, hq, e⟩, -⟩ := hP.1.2.2.2.1 k hk
  rw [e]
  exact not_congr (left_z P.1.1 (by omega) k (by omega) q (by omega) ⟨hk, hq⟩)
theorem fl_bit {P : PT} (hP : drP P) {d : Nat} (hd : d < 10) : bit (flP P P.1.1) d = true ↔ d < P.1.1 ∧ someQ P (nI d) := by
  have h5 := hP.1.1
  by_cases h : d < P.1.1
  · rw [flP, orB_bit _ h5 h, decide_eq_true_iff, fl_s hP h]
    exact ⟨fun q => ⟨h, q⟩, fun q => q.2⟩
  · obtain ⟨q, hq, e⟩ := orB_lt (fun s => decide (¬ leftF P.1.1 (P.2 3 s) s = 0)) P.1.1 (by omega)
    have hp := (p2_b P.1.1 (by omega)).1
    rw [flP, e, hi_bit P.1.1 (by omega) q (by omega) d hd ⟨hq, by omega⟩]
    exact ⟨fun q => Bool.noConfusion q, fun q => absurd q.1 h⟩
theorem orB_z {f : Nat → Bool} : ∀ {n : Nat}, (∀ i, i < n → f i = false) → orB f n = 0
  | 0, _ => rfl
  | n + 1, h => by rw [orB, orB_z (fun i hi => h i (by omega)), h n (by omega)]; simp
theorem fl_0 {P : PT} (hP : drP P) : ¬ flP P P.1.1 = 0 ↔ ∃ k, k < P.1.1 ∧ someQ P (nI k) := by
  constructor
  · intro h
    refine Classical.byContradiction (fun hn => h (orB_z (fun i hi => ?_)))
    rw [decide_eq_false_iff_not]
    exact fun q => hn ⟨i, hi, (fl_s hP hi).mp q⟩
  · rintro ⟨k, hk, hs⟩ e
    have h5 := hP.1.1
    have := (fl_bit hP (show k < 10 by omega)).mpr ⟨hk, hs⟩
    rw [e, bit_00 k (by omega)] at this
    cases this
theorem left_q {P : PT} (hP : drP P) {k d : Nat} (hk : k < P.1.1) (hd : d < 10) : bit (leftF P.1.1 (P.2 3 k) k) d = true ↔ d < P.1.1 ∧ joinQ P (nI k) (nI d) := by
  have h5 := hP.1.1
  have hp := (p2_b P.1.1 (by omega)).1
  obtain ⟨⟨q, hq, e⟩, -⟩ := hP.1.2.2.2.1 k hk
  rw [e, left_b P.1.1 (by omega) k (by omega) q (by omega) d hd ⟨hk, hq⟩]
  constructor
  · rintro ⟨h1, h2, h3⟩
    refine ⟨h1, ⟨k, hk, rfl⟩, ⟨d, h1, rfl⟩, fun z => h2 (nI_inj (by omega) (by omega) z), ?_⟩
    rw [joinedQ_i h5 hk h1, e, h3]; exact Bool.false_ne_true
  · rintro ⟨h1, -, -, h4, h6⟩
    refine ⟨h1, fun z => h4 (by rw [z]), ?_⟩
    rw [joinedQ_i h5 hk h1, e, Bool.not_eq_true] at h6
    exact h6
set_option maxHeartbeats 4000000 in
set_option maxRecDepth 100000 in
theorem c_X4_left {w : Wd} {ns k : Nat} {J : Int32} (h18 : w.1 18 = nI ns) (hk : k < 5) (hJ : w.2.2 35 k = J) {Q : Option Value → Wd → Prop} (hQ : Q (some (.int (leftF ns J k))) w) : V mX4_left 0 [some (.ref 1), some (.int (nI k))] [] w Q := by
  refine v_iconst (v := 1) 1 dX4_left_0 rfl ki_1 ?_
  refine la_2_0 2 dX4_left_1 rfl ?_
  refine vg_X4_75 rfl 5 dX4_left_2 rfl ?_
  rw [h18]
  refine v_ishl 6 dX4_left_5 rfl ?_
  refine v_iconst (v := 1) 7 dX4_left_6 rfl ki_1 ?_
  refine v_isub 8 dX4_left_7 rfl ?_
  refine la_2_0 9 dX4_left_8 rfl ?_
  refine vg_X4_22 rfl 12 dX4_left_9 rfl ?_
  refine li_2_1 13 dX4_left_12 rfl ?_
  refine vl_X4_readJoined k 14 dX4_left_13 rfl rfl hk ?_
  rw [hJ]
  refine v_iconst (v := (-1)) 15 dX4_left_14 rfl ki_m1 ?_
  refine v_ixor 16 dX4_left_15 rfl ?_
  refine v_iand 17 dX4_left_16 rfl ?_
  refine v_iconst (v := 1) 18 dX4_left_17 rfl ki_1 ?_
  refine li_2_1 19 dX4_left_18 rfl ?_
  refine v_ishl 20 dX4_left_19 rfl ?_
  refine v_iconst (v := (-1)) 21 dX4_left_20 rfl ki_m1 ?_
  refine v_ixor 22 dX4_left_21 rfl ?_
  refine v_iand 23 dX4_left_22 rfl ?_
  refine v_iret dX4_left_23 rfl ?_
  exact hQ
set_option maxHeartbeats 4000000 in
set_option maxRecDepth 100000 in
theorem c_X4_firstsLeft {w : Wd} {P : PT} (h18 : w.1 18 = nI P.1.1) (h5 : P.1.1 ≤ 5) (hJ : ∀ s, s < P.1.1 → w.2.2 35 s = P.2 3 s) {Q : Option Value → Wd → Prop} (hQ : Q (some (.int (flP P P.1.1))) w) : V mX4_firstsLeft 0 [some (.ref 1), none, none] [] w Q := by
  have key : ∀ i, i ≤ P.1.1 → V mX4_firstsLeft 4 [some (.ref 1), some (.int (flP P i)), some (.int (nI i))] [] w Q := by
    refine up (fun i hi ih => ?_)
    refine li_3_2 5 dX4_firstsLeft_4 rfl ?_
    refine la_3_0 6 dX4_firstsLeft_5 rfl ?_
    refine vg_X4_75 rfl 9 dX4_firstsLeft_6 rfl ?_
    rw [h18]
    refine v_icmp_ge 36 12 dX4_firstsLeft_9 rfl rfl (fun h9 => ?_) (fun h9 => ?_)
    · obtain rfl := ge_eq h9 hi (by omega)
      refine li_3_1 37 dX4_firstsLeft_36 rfl ?_
      refine v_iret dX4_firstsLeft_37 rfl ?_
      exact hQ
    · have hlt := ge_lt h9 (by omega) (by omega)
      refine li_3_1 13 dX4_firstsLeft_12 rfl ?_
      refine la_3_0 14 dX4_firstsLeft_13 rfl ?_
      refine li_3_2 15 dX4_firstsLeft_14 rfl ?_
      refine v_cVI1 18 dX4_firstsLeft_15 rfl fvX4_left fiX4_left ml_X4_78 (seX4) rfl ⟨(Nat.le_of_ble_eq_true rfl), (Nat.le_of_ble_eq_true rfl)⟩ (Nat.le_of_ble_eq_true rfl) (Nat.le_of_ble_eq_true rfl) (c_X4_left h18 (by omega) (hJ i hlt) ⟨_, rfl, ?_⟩) rfl
      refine v_if_eq 27 21 dX4_firstsLeft_18 rfl rfl (fun h18_1 => ?_) (fun h18_1 => ?_)
      · refine v_iconst (v := 0) 28 dX4_firstsLeft_27 rfl ki_0 ?_
        refine v_ior 29 dX4_firstsLeft_28 rfl ?_
        refine si_3_1 rfl 30 dX4_firstsLeft_29 rfl rfl ?_
        refine icn_3_2 rfl 33 dX4_firstsLeft_30 rfl rfl ?_
        refine v_goto 4 dX4_firstsLeft_33 rfl ?_
        have e := ih hlt
        rw [show flP P (i + 1) = flP P i ||| 0 from by show _ ||| (if decide _ = true then _ else _) = _; rw [decide_eq_false (fun kz => kz h18_1)]; rfl] at e
        exact e
      · refine v_iconst (v := 1) 22 dX4_firstsLeft_21 rfl ki_1 ?_
        refine li_3_2 23 dX4_firstsLeft_22 rfl ?_
        refine v_ishl 24 dX4_firstsLeft_23 rfl ?_
        refine v_goto 28 dX4_firstsLeft_24 rfl ?_
        refine v_ior 29 dX4_firstsLeft_28 rfl ?_
        refine si_3_1 rfl 30 dX4_firstsLeft_29 rfl rfl ?_
        refine icn_3_2 rfl 33 dX4_firstsLeft_30 rfl rfl ?_
        refine v_goto 4 dX4_firstsLeft_33 rfl ?_
        have e := ih hlt
        rw [show flP P (i + 1) = flP P i ||| 1 <<< (nI i &&& 31) from by show _ ||| (if decide _ = true then _ else _) = _; rw [decide_eq_true h18_1]; rfl] at e
        exact e
  refine v_iconst (v := 0) 1 dX4_firstsLeft_0 rfl ki_0 ?_
  refine si_3_1 rfl 2 dX4_firstsLeft_1 rfl rfl ?_
  refine v_iconst (v := 0) 3 dX4_firstsLeft_2 rfl ki_0 ?_
  refine si_3_2 rfl 4 dX4_firstsLeft_3 rfl rfl ?_
  exact key 0 (Nat.zero_le _)
def rdG (w : Wd) (P : PT) : Prop := (∀ s, s < P.1.1 → 10 * w.2.2 34 (3 * s) = P.2 0 s ∧ w.2.2 34 (3 * s + 1) = P.2 1 s ∧ w.2.2 34 (3 * s + 2) = P.2 2 s ∧ w.2.2 35 s = P.2 3 s) ∧ (∀ s, P.1.1 ≤ s → s < 5 → w.2.2 35 s = 0) ∧ (∀ m, m < P.1.2.1 → w.2.2 36 (2 * m) = P.2 5 m ∧ w.2.2 36 (2 * m + 1) = P.2 6 m)
theorem flt {x : Nat → Int32} {n j : Nat} {s : RT} (hr : reachR x j s) (h1 : ¬ s.1 = 1) (h : j = n ∨ (j < n ∧ ¬ ∃ t, stepR s (x j) t)) : textR x n (nI j) s := by
  rcases h with rfl | ⟨h, h2⟩
  · exact Or.inr (Or.inl ⟨hr, h1, rfl⟩)
  · exact Or.inl ⟨j, h, hr, h2, rfl⟩
theorem b1023 : ∀ d, d < 10 → bit 1023 d = true := by decide +kernel
theorem b15 : ∀ d, d < 10 → (bit 15 d = true ↔ nI d ≤ 3) := by decide +kernel
theorem b1022 : ∀ d, d < 10 → (bit 1022 d = true ↔ ¬ nI d < 1) := by decide +kernel
theorem figI {c : Int32} {d : Nat} (hd : d < 10) (e : c - 48 = nI d) : fig c := ⟨by rw [e]; exact nI_pos (by omega), by rw [e]; exact nI_le (b := 9) (by omega) (by decide)⟩
theorem nof {c : Int32} (h : ¬ ∃ d, d < 10 ∧ c - 48 = nI d ∧ bit 1023 d = true) : ¬ fig c := fun q => by
  obtain ⟨d, hd, e⟩ := fig_d q
  exact h ⟨d, hd, e, b1023 d hd⟩
theorem nof3 {c : Int32} (h : ¬ ∃ d, d < 10 ∧ c - 48 = nI d ∧ bit 15 d = true) : ¬ (fig c ∧ c - 48 ≤ 3) := fun ⟨q, q3⟩ => by
  obtain ⟨d, hd, e⟩ := fig_d q
  exact h ⟨d, hd, e, (b15 d hd).mpr (by rw [← e]; exact q3)⟩
theorem nof1 {c : Int32} (h : ¬ ∃ d, d < 10 ∧ c - 48 = nI d ∧ bit 1022 d = true) : ¬ (fig c ∧ ¬ c - 48 < 1) := fun ⟨q, q3⟩ => by
  obtain ⟨d, hd, e⟩ := fig_d q
  exact h ⟨d, hd, e, (b1022 d hd).mpr (by rw [← e]; exact q3)⟩
theorem nofs {P : PT} (hP : drP P) {c : Int32} (h : ¬ ∃ d, d < 10 ∧ c - 48 = nI d ∧ bit (flP P P.1.1) d = true) : ¬ (fig c ∧ someQ P (c - 48)) := fun ⟨q, q3⟩ => by
  obtain ⟨d, hd, e⟩ := fig_d q
  rw [e] at q3
  have h5 := hP.1.1
  obtain ⟨k, hk, ek, hs⟩ := q3
  have := nI_inj (by omega) (by omega) ek
  subst this
  exact h ⟨d, hd, e, (fl_bit hP hd).mpr ⟨hk, d, hk, rfl, hs⟩⟩
theorem nofj {P : PT} (hP : drP P) {k : Nat} (hk : k < P.1.1) {c : Int32} (h : ¬ ∃ d, d < 10 ∧ c - 48 = nI d ∧ bit (leftF P.1.1 (P.2 3 k) k) d = true) : ¬ (fig c ∧ joinQ P (nI k) (c - 48)) := fun ⟨q, q3⟩ => by
  obtain ⟨d, hd, e⟩ := fig_d q
  rw [e] at q3
  have h5 := hP.1.1
  obtain ⟨m, hm, em⟩ := q3.2.1
  have := nI_inj (by omega) (by omega) em
  subst this
  exact h ⟨d, hd, e, (left_q hP hk hd).mpr ⟨hm, q3⟩⟩
set_option maxHeartbeats 4000000 in
set_option maxRecDepth 100000 in
theorem c_rpS {w : Wd} {x : Nat → Int32} {n i : Nat} {P : PT} (hn : n ≤ 48) (hi : i < n) (hr : reachR x i (1, 0, 0, 0, P)) (R : RD w x n i (-9) P.1.1 P.1.2.1) (hG : rdG w P) (hc : x i = 83) (hlt : P.1.1 < 5) {Q : Option Value → Wd → Prop} (hT : ∀ u j P2, i < j → j ≤ n → reachR x j (1, 0, 0, 0, P2) → RD u x n j (-9) P2.1.1 P2.1.2.1 → rdG u P2 → FrT w u → Q none u) (hF : ∀ u j k ns nl s, j ≤ n → textR x n (nI j) s → RD u x n k (nI j) ns nl → FrT w u → Q none u) : V mX4_readPart 0 [some (.ref 1), some (.int (x i)), none, none] [] w Q := by
  have hP : drP P := (reach_dr hr).dr
  have h5 : P.1.1 ≤ 5 := hP.1.1
  have h4 : P.1.2.1 ≤ 4 := hP.1.2.1
  have hr1 : reachR x (i + 1) (2, 0, 0, 0, P) := ⟨_, hr, Or.inl ⟨hc, hlt⟩, by rw [if_pos hc]⟩
  refine li_4_1 1 dX4_readPart_0 rfl ?_
  refine v_bipush (v := 83) 3 dX4_readPart_1 rfl kb_83 ?_
  refine v_icmp_ne 94 6 dX4_readPart_3 rfl rfl (fun h3 => ?_) (fun h3 => ?_)
  · exact absurd hc h3
  · refine la_4_0 7 dX4_readPart_6 rfl ?_
    refine vg_X4_75 rfl 10 dX4_readPart_7 rfl ?_
    rw [R.2.2.2.2.1]
    refine v_iconst (v := 5) 11 dX4_readPart_10 rfl ki_5 ?_
    refine v_icmp_ge 94 14 dX4_readPart_11 rfl rfl (fun h11 => ?_) (fun h11 => ?_)
    · exact absurd h11 (by rw [show (5 : Int32) = nI 5 from rfl, nI_leI (by omega) (by omega)]; omega)
    · refine la_4_0 15 dX4_readPart_14 rfl ?_
      refine v_dup 16 dX4_readPart_15 rfl rfl ?_
      refine vg_X4_66 rfl 19 dX4_readPart_16 rfl ?_
      rw [R.2.2.1]
      refine v_iconst (v := 1) 20 dX4_readPart_19 rfl ki_1 ?_
      refine v_iadd 21 dX4_readPart_20 rfl ?_
      refine vs_X4_66 rfl 24 dX4_readPart_21 rfl ?_
      refine vI (fun v1 a1 b1 c1 => ?_)
      rw [nI_1] at a1
      have R1 := R.iA a1 b1 c1
      have T1 : FrT w v1 := FrT.ofI (j := 21) (by omega) b1 c1
      refine la_4_0 25 dX4_readPart_24 rfl ?_
      refine vg_X4_19 rfl 28 dX4_readPart_25 rfl ?_
      refine v_iconst (v := 3) 29 dX4_readPart_28 rfl ki_3 ?_
      refine la_4_0 30 dX4_readPart_29 rfl ?_
      refine vg_X4_75 rfl 33 dX4_readPart_30 rfl ?_
      rw [R1.2.2.2.2.1]
      refine v_imul 34 dX4_readPart_33 rfl ?_
      refine la_4_0 35 dX4_readPart_34 rfl ?_
      refine v_sipush (v := 1023) 38 dX4_readPart_35 rfl ks_1023 ?_
      refine v_cVI1 41 dX4_readPart_38 rfl fvX4_figureOf fiX4_figureOf ml_X4_89 (seX4) rfl ⟨(Nat.le_of_ble_eq_true rfl), (Nat.le_of_ble_eq_true rfl)⟩ (Nat.le_of_ble_eq_true rfl) (Nat.le_of_ble_eq_true rfl) (c_fig R1 hn (by omega) (fun d1 g1 l1 n1 o1 p1 S1 T2 c2 => ⟨_, rfl, ?_⟩) (fun g1 m1 S1 T2 c2 => ⟨_, rfl, ?_⟩)) rfl
      · have hr2 : reachR x (i + 2) (2, 1, nI d1, 0, P) := ⟨_, hr1, figI n1 o1, by rw [o1]⟩
        refine vw_X4_readStamp (3 * P.1.1) 42 dX4_readPart_41 rfl (pk_mul 3 _) (by omega) (vrel (fun u1 e1 F1 => ?_))
        have R2 := S1.fA (by decide) F1
        refine la_4_0 43 dX4_readPart_42 rfl ?_
        refine vg_X4_19 rfl 46 dX4_readPart_43 rfl ?_
        refine v_iconst (v := 3) 47 dX4_readPart_46 rfl ki_3 ?_
        refine la_4_0 48 dX4_readPart_47 rfl ?_
        refine vg_X4_75 rfl 51 dX4_readPart_48 rfl ?_
        rw [R2.2.2.2.2.1]
        refine v_imul 52 dX4_readPart_51 rfl ?_
        refine v_iconst (v := 1) 53 dX4_readPart_52 rfl ki_1 ?_
        refine v_iadd 54 dX4_readPart_53 rfl ?_
        refine la_4_0 55 dX4_readPart_54 rfl ?_
        refine v_sipush (v := 1023) 58 dX4_readPart_55 rfl ks_1023 ?_
        refine v_cVI1 61 dX4_readPart_58 rfl fvX4_figureOf fiX4_figureOf ml_X4_89 (seX4) rfl ⟨(Nat.le_of_ble_eq_true rfl), (Nat.le_of_ble_eq_true rfl)⟩ (Nat.le_of_ble_eq_true rfl) (Nat.le_of_ble_eq_true rfl) (c_fig R2 hn (by omega) (fun d2 g2 l2 n2 o2 p2 S2 T3 c3 => ⟨_, rfl, ?_⟩) (fun g2 m2 S2 T3 c3 => ⟨_, rfl, ?_⟩)) rfl
        · have hr3 : reachR x (i + 3) (2, 2, nI d1, nI d2, P) := ⟨_, hr2, figI n2 o2, by rw [o2]⟩
          refine vw_X4_readStamp (3 * P.1.1 + 1) 62 dX4_readPart_61 rfl (by rw [show (3 : Int32) * nI P.1.1 = nI (3 * P.1.1) from pk_mul 3 _]; exact nI_1 _) (by omega) (vrel (fun u2 e2 F2 => ?_))
          have R3 := S2.fA (by decide) F2
          refine la_4_0 63 dX4_readPart_62 rfl ?_
          refine vg_X4_19 rfl 66 dX4_readPart_63 rfl ?_
          refine v_iconst (v := 3) 67 dX4_readPart_66 rfl ki_3 ?_
          refine la_4_0 68 dX4_readPart_67 rfl ?_
          refine vg_X4_75 rfl 71 dX4_readPart_68 rfl ?_
          rw [R3.2.2.2.2.1]
          refine v_imul 72 dX4_readPart_71 rfl ?_
          refine v_iconst (v := 2) 73 dX4_readPart_72 rfl ki_2 ?_
          refine v_iadd 74 dX4_readPart_73 rfl ?_
          refine la_4_0 75 dX4_readPart_74 rfl ?_
          refine v_bipush (v := 15) 77 dX4_readPart_75 rfl kb_15 ?_
          refine v_cVI1 80 dX4_readPart_77 rfl fvX4_figureOf fiX4_figureOf ml_X4_89 (seX4) rfl ⟨(Nat.le_of_ble_eq_true rfl), (Nat.le_of_ble_eq_true rfl)⟩ (Nat.le_of_ble_eq_true rfl) (Nat.le_of_ble_eq_true rfl) (c_fig R3 hn (by omega) (fun d3 g3 l3 n3 o3 p3 S3 T4 c4 => ⟨_, rfl, ?_⟩) (fun g3 m3 S3 T4 c4 => ⟨_, rfl, ?_⟩)) rfl
          · have hr4 : reachR x (i + 4) (1, 0, 0, 0, addS P (nI d1) (nI d2) (nI d3)) := ⟨_, hr3, figI n3 o3, by rw [o3]; exact (b15 d3 n3).mp p3, by rw [o3]⟩
            refine vw_X4_readStamp (3 * P.1.1 + 2) 81 dX4_readPart_80 rfl (by rw [show (3 : Int32) * nI P.1.1 = nI (3 * P.1.1) from pk_mul 3 _]; exact nI_add _ 2) (by omega) (vrel (fun u3 e3 F3 => ?_))
            have R4 := S3.fA (by decide) F3
            refine la_4_0 82 dX4_readPart_81 rfl ?_
            refine v_dup 83 dX4_readPart_82 rfl rfl ?_
            refine vg_X4_75 rfl 86 dX4_readPart_83 rfl ?_
            rw [R4.2.2.2.2.1]
            refine v_iconst (v := 1) 87 dX4_readPart_86 rfl ki_1 ?_
            refine v_iadd 88 dX4_readPart_87 rfl ?_
            refine vs_X4_75 rfl 91 dX4_readPart_88 rfl ?_
            refine vI (fun v5 a5 b5 c5 => ?_)
            rw [nI_1] at a5
            refine v_goto 272 dX4_readPart_91 rfl ?_
            refine v_vret dX4_readPart_272 rfl ?_
            have E34 : ∀ k, v5.2.2 34 k = if k = 3 * P.1.1 + 2 then nI d3 else if k = 3 * P.1.1 + 1 then nI d2 else if k = 3 * P.1.1 then nI d1 else w.2.2 34 k := fun k => by rw [c5, e3, c4, e2, c3, e1, c2, c1]
            have E35 : v5.2.2 35 = w.2.2 35 := by rw [c5, F3.2.2 35 (by decide), c4, F2.2.2 35 (by decide), c3, F1.2.2 35 (by decide), c2, c1]
            have E36 : v5.2.2 36 = w.2.2 36 := by rw [c5, F3.2.2 36 (by decide), c4, F2.2.2 36 (by decide), c3, F1.2.2 36 (by decide), c2, c1]
            refine hT v5 (i + 4) (addS P (nI d1) (nI d2) (nI d3)) (by omega) (by omega) hr4 (R4.iS a5 b5 c5) ⟨fun s hs => ?_, fun s hs hs5 => ?_, fun m hm => ?_⟩ (((((((T1.tr T2).tr (F1.T (by decide))).tr T3).tr (F2.T (by decide))).tr T4).tr (F3.T (by decide))).tr (FrT.ofI (j := 18) (by omega) b5 c5))
            · rcases (show s < P.1.1 ∨ s = P.1.1 by have h0 : s < P.1.1 + 1 := hs; omega) with q | q
              · rw [E34, E34, E34, E35, if_neg (by omega), if_neg (by omega), if_neg (by omega), if_neg (by omega), if_neg (by omega), if_neg (by omega), if_neg (by omega), if_neg (by omega), if_neg (by omega), addS_ne (by omega), addS_ne (by omega), addS_ne (by omega), addS_ne (by omega)]
                exact hG.1 s q
              · subst q
                have z0 : v5.2.2 34 (3 * P.1.1) = nI d1 := by rw [E34, if_neg (by omega), if_neg (by omega), if_pos rfl]
                have z1 : v5.2.2 34 (3 * P.1.1 + 1) = nI d2 := by rw [E34, if_neg (by omega), if_pos rfl]
                have z2 : v5.2.2 34 (3 * P.1.1 + 2) = nI d3 := by rw [E34, if_pos rfl]
                rw [z0, z1, z2, E35, addS_at (by decide), addS_at (by decide), addS_at (by decide), addS_at (by decide), hG.2.1 P.1.1 (Nat.le_refl _) hlt]
                exact ⟨rfl, rfl, rfl, rfl⟩
            · rw [E35]; exact hG.2.1 s (by have h0 : P.1.1 + 1 ≤ s := hs; omega) hs5
            · rw [E36, addS_ne (by omega), addS_ne (by omega)]; exact hG.2.2 m hm
          · refine vw_X4_readStamp (3 * P.1.1 + 2) 81 dX4_readPart_80 rfl (by rw [show (3 : Int32) * nI P.1.1 = nI (3 * P.1.1) from pk_mul 3 _]; exact nI_add _ 2) (by omega) (vrel (fun u3 e3 F3 => ?_))
            have R4 := S3.fA (by decide) F3
            refine la_4_0 82 dX4_readPart_81 rfl ?_
            refine v_dup 83 dX4_readPart_82 rfl rfl ?_
            refine vg_X4_75 rfl 86 dX4_readPart_83 rfl ?_
            rw [R4.2.2.2.2.1]
            refine v_iconst (v := 1) 87 dX4_readPart_86 rfl ki_1 ?_
            refine v_iadd 88 dX4_readPart_87 rfl ?_
            refine vs_X4_75 rfl 91 dX4_readPart_88 rfl ?_
            refine vI (fun v5 a5 b5 c5 => ?_)
            rw [nI_1] at a5
            refine v_goto 272 dX4_readPart_91 rfl ?_
            refine v_vret dX4_readPart_272 rfl ?_
            exact hF v5 (i + 3) _ _ _ (2, 2, nI d1, nI d2, P) (by omega) (flt hr3 (show ¬ 2 = 1 by decide) (m3.imp id (fun kz => ⟨kz.1, fun ⟨t, kt⟩ => nof3 kz.2 ⟨kt.1, kt.2.1⟩⟩))) (R4.iS a5 b5 c5) (((((((T1.tr T2).tr (F1.T (by decide))).tr T3).tr (F2.T (by decide))).tr T4).tr (F3.T (by decide))).tr (FrT.ofI (j := 18) (by omega) b5 c5))
        · refine vw_X4_readStamp (3 * P.1.1 + 1) 62 dX4_readPart_61 rfl (by rw [show (3 : Int32) * nI P.1.1 = nI (3 * P.1.1) from pk_mul 3 _]; exact nI_1 _) (by omega) (vrel (fun u2 e2 F2 => ?_))
          have R3 := S2.fA (by decide) F2
          refine la_4_0 63 dX4_readPart_62 rfl ?_
          refine vg_X4_19 rfl 66 dX4_readPart_63 rfl ?_
          refine v_iconst (v := 3) 67 dX4_readPart_66 rfl ki_3 ?_
          refine la_4_0 68 dX4_readPart_67 rfl ?_
          refine vg_X4_75 rfl 71 dX4_readPart_68 rfl ?_
          rw [R3.2.2.2.2.1]
          refine v_imul 72 dX4_readPart_71 rfl ?_
          refine v_iconst (v := 2) 73 dX4_readPart_72 rfl ki_2 ?_
          refine v_iadd 74 dX4_readPart_73 rfl ?_
          refine la_4_0 75 dX4_readPart_74 rfl ?_
          refine v_bipush (v := 15) 77 dX4_readPart_75 rfl kb_15 ?_
          refine v_cVI1 80 dX4_readPart_77 rfl fvX4_figureOf fiX4_figureOf ml_X4_89 (seX4) rfl ⟨(Nat.le_of_ble_eq_true rfl), (Nat.le_of_ble_eq_true rfl)⟩ (Nat.le_of_ble_eq_true rfl) (Nat.le_of_ble_eq_true rfl) (c_fig9 R3 (nm9 (by omega)) (fun g3 S3 T4 c4 => ⟨_, rfl, ?_⟩)) rfl
          refine vw_X4_readStamp (3 * P.1.1 + 2) 81 dX4_readPart_80 rfl (by rw [show (3 : Int32) * nI P.1.1 = nI (3 * P.1.1) from pk_mul 3 _]; exact nI_add _ 2) (by omega) (vrel (fun u3 e3 F3 => ?_))
          have R4 := S3.fA (by decide) F3
          refine la_4_0 82 dX4_readPart_81 rfl ?_
          refine v_dup 83 dX4_readPart_82 rfl rfl ?_
          refine vg_X4_75 rfl 86 dX4_readPart_83 rfl ?_
          rw [R4.2.2.2.2.1]
          refine v_iconst (v := 1) 87 dX4_readPart_86 rfl ki_1 ?_
          refine v_iadd 88 dX4_readPart_87 rfl ?_
          refine vs_X4_75 rfl 91 dX4_readPart_88 rfl ?_
          refine vI (fun v5 a5 b5 c5 => ?_)
          rw [nI_1] at a5
          refine v_goto 272 dX4_readPart_91 rfl ?_
          refine v_vret dX4_readPart_272 rfl ?_
          exact hF v5 (i + 2) _ _ _ (2, 1, nI d1, 0, P) (by omega) (flt hr2 (show ¬ 2 = 1 by decide) (m2.imp id (fun kz => ⟨kz.1, fun ⟨t, kt⟩ => nof kz.2 kt.1⟩))) (R4.iS a5 b5 c5) (((((((T1.tr T2).tr (F1.T (by decide))).tr T3).tr (F2.T (by decide))).tr T4).tr (F3.T (by decide))).tr (FrT.ofI (j := 18) (by omega) b5 c5))
      · refine vw_X4_readStamp (3 * P.1.1) 42 dX4_readPart_41 rfl (pk_mul 3 _) (by omega) (vrel (fun u1 e1 F1 => ?_))
        have R2 := S1.fA (by decide) F1
        refine la_4_0 43 dX4_readPart_42 rfl ?_
        refine vg_X4_19 rfl 46 dX4_readPart_43 rfl ?_
        refine v_iconst (v := 3) 47 dX4_readPart_46 rfl ki_3 ?_
        refine la_4_0 48 dX4_readPart_47 rfl ?_
        refine vg_X4_75 rfl 51 dX4_readPart_48 rfl ?_
        rw [R2.2.2.2.2.1]
        refine v_imul 52 dX4_readPart_51 rfl ?_
        refine v_iconst (v := 1) 53 dX4_readPart_52 rfl ki_1 ?_
        refine v_iadd 54 dX4_readPart_53 rfl ?_
        refine la_4_0 55 dX4_readPart_54 rfl ?_
        refine v_sipush (v := 1023) 58 dX4_readPart_55 rfl ks_1023 ?_
        refine v_cVI1 61 dX4_readPart_58 rfl fvX4_figureOf fiX4_figureOf ml_X4_89 (seX4) rfl ⟨(Nat.le_of_ble_eq_true rfl), (Nat.le_of_ble_eq_true rfl)⟩ (Nat.le_of_ble_eq_true rfl) (Nat.le_of_ble_eq_true rfl) (c_fig9 R2 (nm9 (by omega)) (fun g2 S2 T3 c3 => ⟨_, rfl, ?_⟩)) rfl
        refine vw_X4_readStamp (3 * P.1.1 + 1) 62 dX4_readPart_61 rfl (by rw [show (3 : Int32) * nI P.1.1 = nI (3 * P.1.1) from pk_mul 3 _]; exact nI_1 _) (by omega) (vrel (fun u2 e2 F2 => ?_))
        have R3 := S2.fA (by decide) F2
        refine la_4_0 63 dX4_readPart_62 rfl ?_
        refine vg_X4_19 rfl 66 dX4_readPart_63 rfl ?_
        refine v_iconst (v := 3) 67 dX4_readPart_66 rfl ki_3 ?_
        refine la_4_0 68 dX4_readPart_67 rfl ?_
        refine vg_X4_75 rfl 71 dX4_readPart_68 rfl ?_
        rw [R3.2.2.2.2.1]
        refine v_imul 72 dX4_readPart_71 rfl ?_
        refine v_iconst (v := 2) 73 dX4_readPart_72 rfl ki_2 ?_
        refine v_iadd 74 dX4_readPart_73 rfl ?_
        refine la_4_0 75 dX4_readPart_74 rfl ?_
        refine v_bipush (v := 15) 77 dX4_readPart_75 rfl kb_15 ?_
        refine v_cVI1 80 dX4_readPart_77 rfl fvX4_figureOf fiX4_figureOf ml_X4_89 (seX4) rfl ⟨(Nat.le_of_ble_eq_true rfl), (Nat.le_of_ble_eq_true rfl)⟩ (Nat.le_of_ble_eq_true rfl) (Nat.le_of_ble_eq_true rfl) (c_fig9 R3 (nm9 (by omega)) (fun g3 S3 T4 c4 => ⟨_, rfl, ?_⟩)) rfl
        refine vw_X4_readStamp (3 * P.1.1 + 2) 81 dX4_readPart_80 rfl (by rw [show (3 : Int32) * nI P.1.1 = nI (3 * P.1.1) from pk_mul 3 _]; exact nI_add _ 2) (by omega) (vrel (fun u3 e3 F3 => ?_))
        have R4 := S3.fA (by decide) F3
        refine la_4_0 82 dX4_readPart_81 rfl ?_
        refine v_dup 83 dX4_readPart_82 rfl rfl ?_
        refine vg_X4_75 rfl 86 dX4_readPart_83 rfl ?_
        rw [R4.2.2.2.2.1]
        refine v_iconst (v := 1) 87 dX4_readPart_86 rfl ki_1 ?_
        refine v_iadd 88 dX4_readPart_87 rfl ?_
        refine vs_X4_75 rfl 91 dX4_readPart_88 rfl ?_
        refine vI (fun v5 a5 b5 c5 => ?_)
        rw [nI_1] at a5
        refine v_goto 272 dX4_readPart_91 rfl ?_
        refine v_vret dX4_readPart_272 rfl ?_
        exact hF v5 (i + 1) _ _ _ (2, 0, 0, 0, P) (by omega) (flt hr1 (show ¬ 2 = 1 by decide) (m1.imp id (fun kz => ⟨kz.1, fun ⟨t, kt⟩ => nof kz.2 kt.1⟩))) (R4.iS a5 b5 c5) (((((((T1.tr T2).tr (F1.T (by decide))).tr T3).tr (F2.T (by decide))).tr T4).tr (F3.T (by decide))).tr (FrT.ofI (j := 18) (by omega) b5 c5))
set_option maxHeartbeats 4000000 in
set_option maxRecDepth 100000 in
theorem c_rpL {w : Wd} {x : Nat → Int32} {n i : Nat} {P : PT} (hn : n ≤ 48) (hi : i < n) (hr : reachR x i (1, 0, 0, 0, P)) (R : RD w x n i (-9) P.1.1 P.1.2.1) (hG : rdG w P) (hc : x i = 76) (hlt : P.1.2.1 < 4) {Q : Option Value → Wd → Prop} (hT : ∀ u j P2, i < j → j ≤ n → reachR x j (1, 0, 0, 0, P2) → RD u x n j (-9) P2.1.1 P2.1.2.1 → rdG u P2 → FrT w u → Q none u) (hF : ∀ u j k ns nl s, j ≤ n → textR x n (nI j) s → RD u x n k (nI j) ns nl → FrT w u → Q none u) : V mX4_readPart 0 [some (.ref 1), some (.int (x i)), none, none] [] w Q := by
  have hP : drP P := (reach_dr hr).dr
  have h5 : P.1.1 ≤ 5 := hP.1.1
  have h4 : P.1.2.1 ≤ 4 := hP.1.2.1
  have hr1 : reachR x (i + 1) (4, 0, 0, 0, P) := ⟨_, hr, Or.inr (Or.inr ⟨hc, hlt⟩), by rw [hc]; rfl⟩
  refine li_4_1 1 dX4_readPart_0 rfl ?_
  refine v_bipush (v := 83) 3 dX4_readPart_1 rfl kb_83 ?_
  refine v_icmp_ne 94 6 dX4_readPart_3 rfl rfl (fun h3 => ?_) (fun h3 => ?_)
  · refine li_4_1 95 dX4_readPart_94 rfl ?_
    refine v_bipush (v := 74) 97 dX4_readPart_95 rfl kb_74 ?_
    refine v_icmp_ne 189 100 dX4_readPart_97 rfl rfl (fun h97 => ?_) (fun h97 => ?_)
    · refine li_4_1 190 dX4_readPart_189 rfl ?_
      refine v_bipush (v := 76) 192 dX4_readPart_190 rfl kb_76 ?_
      refine v_icmp_ne 264 195 dX4_readPart_192 rfl rfl (fun h192 => ?_) (fun h192 => ?_)
      · exact absurd hc h192
      · refine la_4_0 196 dX4_readPart_195 rfl ?_
        refine vg_X4_82 rfl 199 dX4_readPart_196 rfl ?_
        rw [R.2.2.2.2.2]
        refine v_iconst (v := 4) 200 dX4_readPart_199 rfl ki_4 ?_
        refine v_icmp_ge 264 203 dX4_readPart_200 rfl rfl (fun h200 => ?_) (fun h200 => ?_)
        · exact absurd h200 (by rw [show (4 : Int32) = nI 4 from rfl, nI_leI (by omega) (by omega)]; omega)
        · refine la_4_0 204 dX4_readPart_203 rfl ?_
          refine v_dup 205 dX4_readPart_204 rfl rfl ?_
          refine vg_X4_66 rfl 208 dX4_readPart_205 rfl ?_
          rw [R.2.2.1]
          refine v_iconst (v := 1) 209 dX4_readPart_208 rfl ki_1 ?_
          refine v_iadd 210 dX4_readPart_209 rfl ?_
          refine vs_X4_66 rfl 213 dX4_readPart_210 rfl ?_
          refine vI (fun v1 a1 b1 c1 => ?_)
          rw [nI_1] at a1
          have R1 := R.iA a1 b1 c1
          have T1 : FrT w v1 := FrT.ofI (j := 21) (by omega) b1 c1
          refine la_4_0 214 dX4_readPart_213 rfl ?_
          refine vg_X4_25 rfl 217 dX4_readPart_214 rfl ?_
          refine v_iconst (v := 2) 218 dX4_readPart_217 rfl ki_2 ?_
          refine la_4_0 219 dX4_readPart_218 rfl ?_
          refine vg_X4_82 rfl 222 dX4_readPart_219 rfl ?_
          rw [R1.2.2.2.2.2]
          refine v_imul 223 dX4_readPart_222 rfl ?_
          refine la_4_0 224 dX4_readPart_223 rfl ?_
          refine v_sipush (v := 1022) 227 dX4_readPart_224 rfl ks_1022 ?_
          refine v_cVI1 230 dX4_readPart_227 rfl fvX4_figureOf fiX4_figureOf ml_X4_89 (seX4) rfl ⟨(Nat.le_of_ble_eq_true rfl), (Nat.le_of_ble_eq_true rfl)⟩ (Nat.le_of_ble_eq_true rfl) (Nat.le_of_ble_eq_true rfl) (c_fig R1 hn (by omega) (fun d1 g1 l1 n1 o1 p1 S1 T2 c2 => ⟨_, rfl, ?_⟩) (fun g1 m1 S1 T2 c2 => ⟨_, rfl, ?_⟩)) rfl
          · have hr2 : reachR x (i + 2) (4, 1, nI d1, 0, P) := ⟨_, hr1, figI n1 o1, by rw [o1]; exact (b1022 d1 n1).mp p1, by rw [o1]⟩
            refine vw_X4_readLetter (2 * P.1.2.1) 231 dX4_readPart_230 rfl (pk_mul 2 _) (by omega) (vrel (fun u1 e1 F1 => ?_))
            have R2 := S1.fA (by decide) F1
            refine la_4_0 232 dX4_readPart_231 rfl ?_
            refine vg_X4_25 rfl 235 dX4_readPart_232 rfl ?_
            refine v_iconst (v := 2) 236 dX4_readPart_235 rfl ki_2 ?_
            refine la_4_0 237 dX4_readPart_236 rfl ?_
            refine vg_X4_82 rfl 240 dX4_readPart_237 rfl ?_
            rw [R2.2.2.2.2.2]
            refine v_imul 241 dX4_readPart_240 rfl ?_
            refine v_iconst (v := 1) 242 dX4_readPart_241 rfl ki_1 ?_
            refine v_iadd 243 dX4_readPart_242 rfl ?_
            refine la_4_0 244 dX4_readPart_243 rfl ?_
            refine v_sipush (v := 1022) 247 dX4_readPart_244 rfl ks_1022 ?_
            refine v_cVI1 250 dX4_readPart_247 rfl fvX4_figureOf fiX4_figureOf ml_X4_89 (seX4) rfl ⟨(Nat.le_of_ble_eq_true rfl), (Nat.le_of_ble_eq_true rfl)⟩ (Nat.le_of_ble_eq_true rfl) (Nat.le_of_ble_eq_true rfl) (c_fig R2 hn (by omega) (fun d2 g2 l2 n2 o2 p2 S2 T3 c3 => ⟨_, rfl, ?_⟩) (fun g2 m2 S2 T3 c3 => ⟨_, rfl, ?_⟩)) rfl
            · have hr3 : reachR x (i + 3) (1, 0, 0, 0, addL P (nI d1) (nI d2)) := ⟨_, hr2, figI n2 o2, by rw [o2]; exact (b1022 d2 n2).mp p2, by rw [o2]⟩
              refine vw_X4_readLetter (2 * P.1.2.1 + 1) 251 dX4_readPart_250 rfl (by rw [show (2 : Int32) * nI P.1.2.1 = nI (2 * P.1.2.1) from pk_mul 2 _]; exact nI_1 _) (by omega) (vrel (fun u2 e2 F2 => ?_))
              have R3 := S2.fA (by decide) F2
              refine la_4_0 252 dX4_readPart_251 rfl ?_
              refine v_dup 253 dX4_readPart_252 rfl rfl ?_
              refine vg_X4_82 rfl 256 dX4_readPart_253 rfl ?_
              rw [R3.2.2.2.2.2]
              refine v_iconst (v := 1) 257 dX4_readPart_256 rfl ki_1 ?_
              refine v_iadd 258 dX4_readPart_257 rfl ?_
              refine vs_X4_82 rfl 261 dX4_readPart_258 rfl ?_
              refine vI (fun v5 a5 b5 c5 => ?_)
              rw [nI_1] at a5
              refine v_goto 272 dX4_readPart_261 rfl ?_
              refine v_vret dX4_readPart_272 rfl ?_
              have E36 : ∀ k, v5.2.2 36 k = if k = 2 * P.1.2.1 + 1 then nI d2 else if k = 2 * P.1.2.1 then nI d1 else w.2.2 36 k := fun k => by rw [c5, e2, c3, e1, c2, c1]
              have E35 : v5.2.2 35 = w.2.2 35 := by rw [c5, F2.2.2 35 (by decide), c3, F1.2.2 35 (by decide), c2, c1]
              have E34 : v5.2.2 34 = w.2.2 34 := by rw [c5, F2.2.2 34 (by decide), c3, F1.2.2 34 (by decide), c2, c1]
              refine hT v5 (i + 3) (addL P (nI d1) (nI d2)) (by omega) (by omega) hr3 (R3.iL a5 b5 c5) ⟨fun s hs => ?_, fun s hs hs5 => ?_, fun m hm => ?_⟩ (((((T1.tr T2).tr (F1.T (by decide))).tr T3).tr (F2.T (by decide))).tr (FrT.ofI (j := 19) (by omega) b5 c5))
              · rw [E34, E35, addL_ne (by omega), addL_ne (by omega), addL_ne (by omega), addL_ne (by omega)]; exact hG.1 s hs
              · rw [E35]; exact hG.2.1 s hs hs5
              · rcases (show m < P.1.2.1 ∨ m = P.1.2.1 by have h0 : m < P.1.2.1 + 1 := hm; omega) with q | q
                · rw [E36, E36, if_neg (by omega), if_neg (by omega), if_neg (by omega), if_neg (by omega), addL_ne (by omega), addL_ne (by omega)]
                  exact hG.2.2 m q
                · subst q
                  have z0 : v5.2.2 36 (2 * P.1.2.1) = nI d1 := by rw [E36, if_neg (by omega), if_pos rfl]
                  have z1 : v5.2.2 36 (2 * P.1.2.1 + 1) = nI d2 := by rw [E36, if_pos rfl]
                  rw [z0, z1, addL_at (by decide), addL_at (by decide)]
                  exact ⟨rfl, rfl⟩
            · refine vw_X4_readLetter (2 * P.1.2.1 + 1) 251 dX4_readPart_250 rfl (by rw [show (2 : Int32) * nI P.1.2.1 = nI (2 * P.1.2.1) from pk_mul 2 _]; exact nI_1 _) (by omega) (vrel (fun u2 e2 F2 => ?_))
              have R3 := S2.fA (by decide) F2
              refine la_4_0 252 dX4_readPart_251 rfl ?_
              refine v_dup 253 dX4_readPart_252 rfl rfl ?_
              refine vg_X4_82 rfl 256 dX4_readPart_253 rfl ?_
              rw [R3.2.2.2.2.2]
              refine v_iconst (v := 1) 257 dX4_readPart_256 rfl ki_1 ?_
              refine v_iadd 258 dX4_readPart_257 rfl ?_
              refine vs_X4_82 rfl 261 dX4_readPart_258 rfl ?_
              refine vI (fun v5 a5 b5 c5 => ?_)
              rw [nI_1] at a5
              refine v_goto 272 dX4_readPart_261 rfl ?_
              refine v_vret dX4_readPart_272 rfl ?_
              exact hF v5 (i + 2) _ _ _ (4, 1, nI d1, 0, P) (by omega) (flt hr2 (show ¬ 4 = 1 by decide) (m2.imp id (fun kz => ⟨kz.1, fun ⟨t, kt⟩ => nof1 kz.2 ⟨kt.1, kt.2.1⟩⟩))) (R3.iL a5 b5 c5) (((((T1.tr T2).tr (F1.T (by decide))).tr T3).tr (F2.T (by decide))).tr (FrT.ofI (j := 19) (by omega) b5 c5))
          · refine vw_X4_readLetter (2 * P.1.2.1) 231 dX4_readPart_230 rfl (pk_mul 2 _) (by omega) (vrel (fun u1 e1 F1 => ?_))
            have R2 := S1.fA (by decide) F1
            refine la_4_0 232 dX4_readPart_231 rfl ?_
            refine vg_X4_25 rfl 235 dX4_readPart_232 rfl ?_
            refine v_iconst (v := 2) 236 dX4_readPart_235 rfl ki_2 ?_
            refine la_4_0 237 dX4_readPart_236 rfl ?_
            refine vg_X4_82 rfl 240 dX4_readPart_237 rfl ?_
            rw [R2.2.2.2.2.2]
            refine v_imul 241 dX4_readPart_240 rfl ?_
            refine v_iconst (v := 1) 242 dX4_readPart_241 rfl ki_1 ?_
            refine v_iadd 243 dX4_readPart_242 rfl ?_
            refine la_4_0 244 dX4_readPart_243 rfl ?_
            refine v_sipush (v := 1022) 247 dX4_readPart_244 rfl ks_1022 ?_
            refine v_cVI1 250 dX4_readPart_247 rfl fvX4_figureOf fiX4_figureOf ml_X4_89 (seX4) rfl ⟨(Nat.le_of_ble_eq_true rfl), (Nat.le_of_ble_eq_true rfl)⟩ (Nat.le_of_ble_eq_true rfl) (Nat.le_of_ble_eq_true rfl) (c_fig9 R2 (nm9 (by omega)) (fun g2 S2 T3 c3 => ⟨_, rfl, ?_⟩)) rfl
            refine vw_X4_readLetter (2 * P.1.2.1 + 1) 251 dX4_readPart_250 rfl (by rw [show (2 : Int32) * nI P.1.2.1 = nI (2 * P.1.2.1) from pk_mul 2 _]; exact nI_1 _) (by omega) (vrel (fun u2 e2 F2 => ?_))
            have R3 := S2.fA (by decide) F2
            refine la_4_0 252 dX4_readPart_251 rfl ?_
            refine v_dup 253 dX4_readPart_252 rfl rfl ?_
            refine vg_X4_82 rfl 256 dX4_readPart_253 rfl ?_
            rw [R3.2.2.2.2.2]
            refine v_iconst (v := 1) 257 dX4_readPart_256 rfl ki_1 ?_
            refine v_iadd 258 dX4_readPart_257 rfl ?_
            refine vs_X4_82 rfl 261 dX4_readPart_258 rfl ?_
            refine vI (fun v5 a5 b5 c5 => ?_)
            rw [nI_1] at a5
            refine v_goto 272 dX4_readPart_261 rfl ?_
            refine v_vret dX4_readPart_272 rfl ?_
            exact hF v5 (i + 1) _ _ _ (4, 0, 0, 0, P) (by omega) (flt hr1 (show ¬ 4 = 1 by decide) (m1.imp id (fun kz => ⟨kz.1, fun ⟨t, kt⟩ => nof1 kz.2 ⟨kt.1, kt.2.1⟩⟩))) (R3.iL a5 b5 c5) (((((T1.tr T2).tr (F1.T (by decide))).tr T3).tr (F2.T (by decide))).tr (FrT.ofI (j := 19) (by omega) b5 c5))
    · exact absurd (h97.symm.trans hc) (by decide)
  · exact absurd (h3.symm.trans hc) (by decide)
set_option maxHeartbeats 4000000 in
set_option maxRecDepth 100000 in
theorem c_rpJ {w : Wd} {x : Nat → Int32} {n i : Nat} {P : PT} (hn : n ≤ 48) (hi : i < n) (hr : reachR x i (1, 0, 0, 0, P)) (R : RD w x n i (-9) P.1.1 P.1.2.1) (hG : rdG w P) (hc : x i = 74) (hs : ∃ k, k < P.1.1 ∧ someQ P (nI k)) {Q : Option Value → Wd → Prop} (hT : ∀ u j P2, i < j → j ≤ n → reachR x j (1, 0, 0, 0, P2) → RD u x n j (-9) P2.1.1 P2.1.2.1 → rdG u P2 → FrT w u → Q none u) (hF : ∀ u j k ns nl s, j ≤ n → textR x n (nI j) s → RD u x n k (nI j) ns nl → FrT w u → Q none u) : V mX4_readPart 0 [some (.ref 1), some (.int (x i)), none, none] [] w Q := by
  have hP : drP P := (reach_dr hr).dr
  have h5 : P.1.1 ≤ 5 := hP.1.1
  have h4 : P.1.2.1 ≤ 4 := hP.1.2.1
  have hfl := (fl_0 hP).mpr hs
  have hr1 : reachR x (i + 1) (3, 0, 0, 0, P) := ⟨_, hr, Or.inr (Or.inl ⟨hc, hs⟩), by rw [hc]; rfl⟩
  refine li_4_1 1 dX4_readPart_0 rfl ?_
  refine v_bipush (v := 83) 3 dX4_readPart_1 rfl kb_83 ?_
  refine v_icmp_ne 94 6 dX4_readPart_3 rfl rfl (fun h3 => ?_) (fun h3 => ?_)
  · refine li_4_1 95 dX4_readPart_94 rfl ?_
    refine v_bipush (v := 74) 97 dX4_readPart_95 rfl kb_74 ?_
    refine v_icmp_ne 189 100 dX4_readPart_97 rfl rfl (fun h97 => ?_) (fun h97 => ?_)
    · exact absurd hc h97
    · refine la_4_0 101 dX4_readPart_100 rfl ?_
      refine v_cVI0 104 dX4_readPart_101 rfl fvX4_firstsLeft fiX4_firstsLeft ml_X4_92 (seX4) rfl ⟨(Nat.le_of_ble_eq_true rfl), (Nat.le_of_ble_eq_true rfl)⟩ (Nat.le_of_ble_eq_true rfl) (Nat.le_of_ble_eq_true rfl) (c_X4_firstsLeft R.2.2.2.2.1 h5 (fun s hs => (hG.1 s hs).2.2.2) ⟨_, rfl, ?_⟩) rfl
      refine v_if_eq 189 107 dX4_readPart_104 rfl rfl (fun h104 => ?_) (fun h104 => ?_)
      · exact absurd h104 hfl
      · refine la_4_0 108 dX4_readPart_107 rfl ?_
        refine v_dup 109 dX4_readPart_108 rfl rfl ?_
        refine vg_X4_66 rfl 112 dX4_readPart_109 rfl ?_
        rw [R.2.2.1]
        refine v_iconst (v := 1) 113 dX4_readPart_112 rfl ki_1 ?_
        refine v_iadd 114 dX4_readPart_113 rfl ?_
        refine vs_X4_66 rfl 117 dX4_readPart_114 rfl ?_
        refine vI (fun v1 a1 b1 c1 => ?_)
        rw [nI_1] at a1
        have R1 := R.iA a1 b1 c1
        have T1 : FrT w v1 := FrT.ofI (j := 21) (by omega) b1 c1
        refine la_4_0 118 dX4_readPart_117 rfl ?_
        refine la_4_0 119 dX4_readPart_118 rfl ?_
        refine v_cVI0 122 dX4_readPart_119 rfl fvX4_firstsLeft fiX4_firstsLeft ml_X4_92 (seX4) rfl ⟨(Nat.le_of_ble_eq_true rfl), (Nat.le_of_ble_eq_true rfl)⟩ (Nat.le_of_ble_eq_true rfl) (Nat.le_of_ble_eq_true rfl) (c_X4_firstsLeft R1.2.2.2.2.1 h5 (fun s hs => by rw [c1]; exact (hG.1 s hs).2.2.2) ⟨_, rfl, ?_⟩) rfl
        refine v_cVI1 125 dX4_readPart_122 rfl fvX4_figureOf fiX4_figureOf ml_X4_89 (seX4) rfl ⟨(Nat.le_of_ble_eq_true rfl), (Nat.le_of_ble_eq_true rfl)⟩ (Nat.le_of_ble_eq_true rfl) (Nat.le_of_ble_eq_true rfl) (c_fig R1 hn (by omega) (fun d1 g1 l1 n1 o1 p1 S1 T2 c2 => ⟨_, rfl, ?_⟩) (fun g1 m1 S1 T2 c2 => ⟨_, rfl, ?_⟩)) rfl
        · obtain ⟨hd1, hs1⟩ := (fl_bit hP n1).mp p1
          have hr2 : reachR x (i + 2) (3, 1, nI d1, 0, P) := ⟨_, hr1, figI n1 o1, by rw [o1]; exact hs1, by rw [o1]⟩
          refine si_4_2 rfl 126 dX4_readPart_125 rfl rfl ?_
          refine la_4_0 127 dX4_readPart_126 rfl ?_
          refine la_4_0 128 dX4_readPart_127 rfl ?_
          refine li_4_2 129 dX4_readPart_128 rfl ?_
          refine v_cVI1 132 dX4_readPart_129 rfl fvX4_left fiX4_left ml_X4_78 (seX4) rfl ⟨(Nat.le_of_ble_eq_true rfl), (Nat.le_of_ble_eq_true rfl)⟩ (Nat.le_of_ble_eq_true rfl) (Nat.le_of_ble_eq_true rfl) (c_X4_left S1.2.2.2.2.1 (by omega) (show g1.2.2 35 d1 = P.2 3 d1 by rw [c2, c1]; exact (hG.1 d1 hd1).2.2.2) ⟨_, rfl, ?_⟩) rfl
          refine v_cVI1 135 dX4_readPart_132 rfl fvX4_figureOf fiX4_figureOf ml_X4_89 (seX4) rfl ⟨(Nat.le_of_ble_eq_true rfl), (Nat.le_of_ble_eq_true rfl)⟩ (Nat.le_of_ble_eq_true rfl) (Nat.le_of_ble_eq_true rfl) (c_fig S1 hn (by omega) (fun d2 g2 l2 n2 o2 p2 S2 T3 c3 => ⟨_, rfl, ?_⟩) (fun g2 m2 S2 T3 c3 => ⟨_, rfl, ?_⟩)) rfl
          · obtain ⟨hd2, hs2⟩ := (left_q hP hd1 n2).mp p2
            have hr3 : reachR x (i + 3) (1, 0, 0, 0, joinP P d1 d2) := ⟨_, hr2, figI n2 o2, d1, d2, hd1, hd2, rfl, o2, by rw [o2]; exact hs2, rfl⟩
            have hne : ¬ d1 = d2 := fun kz => hs2.2.2.1 (by rw [kz])
            refine si_4_3 rfl 136 dX4_readPart_135 rfl rfl ?_
            refine la_4_0 137 dX4_readPart_136 rfl ?_
            refine vg_X4_22 rfl 140 dX4_readPart_137 rfl ?_
            refine li_4_2 141 dX4_readPart_140 rfl ?_
            refine v_dup2 142 dX4_readPart_141 rfl rfl rfl ?_
            refine vl_X4_readJoined d1 143 dX4_readPart_142 rfl rfl (by omega) ?_
            refine la_4_0 144 dX4_readPart_143 rfl ?_
            refine vg_X4_63 rfl 147 dX4_readPart_144 rfl ?_
            rw [S2.2.2.2.1]
            refine v_bipush (v := (-9)) 149 dX4_readPart_147 rfl kb_m9 ?_
            refine v_icmp_ne 158 152 dX4_readPart_149 rfl rfl (fun h149 => ?_) (fun h149 => ?_)
            · exact absurd rfl h149
            · refine v_iconst (v := 1) 153 dX4_readPart_152 rfl ki_1 ?_
              refine li_4_3 154 dX4_readPart_153 rfl ?_
              refine v_ishl 155 dX4_readPart_154 rfl ?_
              refine v_goto 159 dX4_readPart_155 rfl ?_
              refine v_ior 160 dX4_readPart_159 rfl ?_
              refine vw_X4_readJoined d1 161 dX4_readPart_160 rfl rfl (by omega) (vrel (fun u1 e1 F1 => ?_))
              have R3 := S2.fA (by decide) F1
              refine la_4_0 162 dX4_readPart_161 rfl ?_
              refine vg_X4_22 rfl 165 dX4_readPart_162 rfl ?_
              refine li_4_3 166 dX4_readPart_165 rfl ?_
              refine v_dup2 167 dX4_readPart_166 rfl rfl rfl ?_
              refine vl_X4_readJoined d2 168 dX4_readPart_167 rfl rfl (by omega) ?_
              refine la_4_0 169 dX4_readPart_168 rfl ?_
              refine vg_X4_63 rfl 172 dX4_readPart_169 rfl ?_
              rw [R3.2.2.2.1]
              refine v_bipush (v := (-9)) 174 dX4_readPart_172 rfl kb_m9 ?_
              refine v_icmp_ne 183 177 dX4_readPart_174 rfl rfl (fun h174 => ?_) (fun h174 => ?_)
              · exact absurd rfl h174
              · refine v_iconst (v := 1) 178 dX4_readPart_177 rfl ki_1 ?_
                refine li_4_2 179 dX4_readPart_178 rfl ?_
                refine v_ishl 180 dX4_readPart_179 rfl ?_
                refine v_goto 184 dX4_readPart_180 rfl ?_
                refine v_ior 185 dX4_readPart_184 rfl ?_
                refine vw_X4_readJoined d2 186 dX4_readPart_185 rfl rfl (by omega) (vrel (fun u2 e2 F2 => ?_))
                have R4 := R3.fA (by decide) F2
                refine v_goto 272 dX4_readPart_186 rfl ?_
                refine v_vret dX4_readPart_272 rfl ?_
                have E35 : ∀ k, u2.2.2 35 k = if k = d2 then w.2.2 35 d2 ||| 1 <<< (nI d1 &&& 31) else if k = d1 then w.2.2 35 d1 ||| 1 <<< (nI d2 &&& 31) else w.2.2 35 k := fun k => by
                  have z1 : ∀ k, u1.2.2 35 k = if k = d1 then w.2.2 35 d1 ||| 1 <<< (nI d2 &&& 31) else w.2.2 35 k := fun k => by rw [e1, c3, c2, c1]
                  rw [e2, z1 k, z1 d2, if_neg (fun kz : d2 = d1 => hne kz.symm)]
                have E34 : u2.2.2 34 = w.2.2 34 := by rw [F2.2.2 34 (by decide), F1.2.2 34 (by decide), c3, c2, c1]
                have E36 : u2.2.2 36 = w.2.2 36 := by rw [F2.2.2 36 (by decide), F1.2.2 36 (by decide), c3, c2, c1]
                refine hT u2 (i + 3) (joinP P d1 d2) (by omega) (by omega) hr3 R4 ⟨fun s hs => ?_, fun s hs hs5 => ?_, fun m hm => ?_⟩ ((((T1.tr T2).tr T3).tr (F1.T (by decide))).tr (F2.T (by decide)))
                · have g := hG.1 s hs
                  rw [E34, E35, joinP_o (by decide), joinP_o (by decide), joinP_o (by decide), joinP_3 hne, (hG.1 d1 hd1).2.2.2, (hG.1 d2 hd2).2.2.2, g.2.2.2]
                  exact ⟨g.1, g.2.1, g.2.2.1, rfl⟩
                · have h0 : P.1.1 ≤ s := hs
                  rw [E35, if_neg (by omega), if_neg (by omega)]; exact hG.2.1 s h0 hs5
                · rw [E36, joinP_o (by decide), joinP_o (by decide)]; exact hG.2.2 m hm
          · refine si_4_3 rfl 136 dX4_readPart_135 rfl rfl ?_
            refine la_4_0 137 dX4_readPart_136 rfl ?_
            refine vg_X4_22 rfl 140 dX4_readPart_137 rfl ?_
            refine li_4_2 141 dX4_readPart_140 rfl ?_
            refine v_dup2 142 dX4_readPart_141 rfl rfl rfl ?_
            refine vl_X4_readJoined d1 143 dX4_readPart_142 rfl rfl (by omega) ?_
            refine la_4_0 144 dX4_readPart_143 rfl ?_
            refine vg_X4_63 rfl 147 dX4_readPart_144 rfl ?_
            rw [S2.2.2.2.1]
            refine v_bipush (v := (-9)) 149 dX4_readPart_147 rfl kb_m9 ?_
            refine v_icmp_ne 158 152 dX4_readPart_149 rfl rfl (fun h149 => ?_) (fun h149 => ?_)
            · refine v_iconst (v := 0) 159 dX4_readPart_158 rfl ki_0 ?_
              refine v_ior 160 dX4_readPart_159 rfl ?_
              refine vw_X4_readJoined d1 161 dX4_readPart_160 rfl rfl (by omega) (vrel (fun u1 e1 F1 => ?_))
              have R3 := S2.fA (by decide) F1
              refine la_4_0 162 dX4_readPart_161 rfl ?_
              refine vg_X4_22 rfl 165 dX4_readPart_162 rfl ?_
              refine li_4_3 166 dX4_readPart_165 rfl ?_
              refine v_dup2 167 dX4_readPart_166 rfl rfl rfl ?_
              refine vl_X4_readJoined 0 168 dX4_readPart_167 rfl rfl (by decide) ?_
              refine la_4_0 169 dX4_readPart_168 rfl ?_
              refine vg_X4_63 rfl 172 dX4_readPart_169 rfl ?_
              rw [R3.2.2.2.1]
              refine v_bipush (v := (-9)) 174 dX4_readPart_172 rfl kb_m9 ?_
              refine v_icmp_ne 183 177 dX4_readPart_174 rfl rfl (fun h174 => ?_) (fun h174 => ?_)
              · refine v_iconst (v := 0) 184 dX4_readPart_183 rfl ki_0 ?_
                refine v_ior 185 dX4_readPart_184 rfl ?_
                refine vw_X4_readJoined 0 186 dX4_readPart_185 rfl rfl (by decide) (vrel (fun u2 e2 F2 => ?_))
                have R4 := R3.fA (by decide) F2
                refine v_goto 272 dX4_readPart_186 rfl ?_
                refine v_vret dX4_readPart_272 rfl ?_
                exact hF u2 (i + 2) _ _ _ (3, 1, nI d1, 0, P) (by omega) (flt hr2 (show ¬ 3 = 1 by decide) (m2.imp id (fun kz => ⟨kz.1, fun ⟨t, kt⟩ => (nofj hP hd1 kz.2 (by obtain ⟨q1, k, m, q2, q3, q4, q5, q6, q7⟩ := kt; exact ⟨q1, q6⟩))⟩))) R4 ((((T1.tr T2).tr T3).tr (F1.T (by decide))).tr (F2.T (by decide)))
              · exact absurd h174 (nm9 (by omega))
            · exact absurd h149 (nm9 (by omega))
        · refine si_4_2 rfl 126 dX4_readPart_125 rfl rfl ?_
          refine la_4_0 127 dX4_readPart_126 rfl ?_
          refine la_4_0 128 dX4_readPart_127 rfl ?_
          refine li_4_2 129 dX4_readPart_128 rfl ?_
          refine v_cVI1 132 dX4_readPart_129 rfl fvX4_left fiX4_left ml_X4_78 (seX4) rfl ⟨(Nat.le_of_ble_eq_true rfl), (Nat.le_of_ble_eq_true rfl)⟩ (Nat.le_of_ble_eq_true rfl) (Nat.le_of_ble_eq_true rfl) (c_X4_left (k := 0) S1.2.2.2.2.1 (by decide) rfl ⟨_, rfl, ?_⟩) rfl
          refine v_cVI1 135 dX4_readPart_132 rfl fvX4_figureOf fiX4_figureOf ml_X4_89 (seX4) rfl ⟨(Nat.le_of_ble_eq_true rfl), (Nat.le_of_ble_eq_true rfl)⟩ (Nat.le_of_ble_eq_true rfl) (Nat.le_of_ble_eq_true rfl) (c_fig9 S1 (nm9 (by omega)) (fun g2 S2 T3 c3 => ⟨_, rfl, ?_⟩)) rfl
          refine si_4_3 rfl 136 dX4_readPart_135 rfl rfl ?_
          refine la_4_0 137 dX4_readPart_136 rfl ?_
          refine vg_X4_22 rfl 140 dX4_readPart_137 rfl ?_
          refine li_4_2 141 dX4_readPart_140 rfl ?_
          refine v_dup2 142 dX4_readPart_141 rfl rfl rfl ?_
          refine vl_X4_readJoined 0 143 dX4_readPart_142 rfl rfl (by decide) ?_
          refine la_4_0 144 dX4_readPart_143 rfl ?_
          refine vg_X4_63 rfl 147 dX4_readPart_144 rfl ?_
          rw [S2.2.2.2.1]
          refine v_bipush (v := (-9)) 149 dX4_readPart_147 rfl kb_m9 ?_
          refine v_icmp_ne 158 152 dX4_readPart_149 rfl rfl (fun h149 => ?_) (fun h149 => ?_)
          · refine v_iconst (v := 0) 159 dX4_readPart_158 rfl ki_0 ?_
            refine v_ior 160 dX4_readPart_159 rfl ?_
            refine vw_X4_readJoined 0 161 dX4_readPart_160 rfl rfl (by decide) (vrel (fun u1 e1 F1 => ?_))
            have R3 := S2.fA (by decide) F1
            refine la_4_0 162 dX4_readPart_161 rfl ?_
            refine vg_X4_22 rfl 165 dX4_readPart_162 rfl ?_
            refine li_4_3 166 dX4_readPart_165 rfl ?_
            refine v_dup2 167 dX4_readPart_166 rfl rfl rfl ?_
            refine vl_X4_readJoined 0 168 dX4_readPart_167 rfl rfl (by decide) ?_
            refine la_4_0 169 dX4_readPart_168 rfl ?_
            refine vg_X4_63 rfl 172 dX4_readPart_169 rfl ?_
            rw [R3.2.2.2.1]
            refine v_bipush (v := (-9)) 174 dX4_readPart_172 rfl kb_m9 ?_
            refine v_icmp_ne 183 177 dX4_readPart_174 rfl rfl (fun h174 => ?_) (fun h174 => ?_)
            · refine v_iconst (v := 0) 184 dX4_readPart_183 rfl ki_0 ?_
              refine v_ior 185 dX4_readPart_184 rfl ?_
              refine vw_X4_readJoined 0 186 dX4_readPart_185 rfl rfl (by decide) (vrel (fun u2 e2 F2 => ?_))
              have R4 := R3.fA (by decide) F2
              refine v_goto 272 dX4_readPart_186 rfl ?_
              refine v_vret dX4_readPart_272 rfl ?_
              exact hF u2 (i + 1) _ _ _ (3, 0, 0, 0, P) (by omega) (flt hr1 (show ¬ 3 = 1 by decide) (m1.imp id (fun kz => ⟨kz.1, fun ⟨t, kt⟩ => nofs hP kz.2 ⟨kt.1, kt.2.1⟩⟩))) R4 ((((T1.tr T2).tr T3).tr (F1.T (by decide))).tr (F2.T (by decide)))
            · exact absurd h174 (nm9 (by omega))
          · exact absurd h149 (nm9 (by omega))
  · exact absurd (h3.symm.trans hc) (by decide)
set_option maxHeartbeats 4000000 in
set_option maxRecDepth 100000 in
theorem c_rpE {w : Wd} {x : Nat → Int32} {n i : Nat} {P : PT} (hn : n ≤ 48) (hi : i < n) (hr : reachR x i (1, 0, 0, 0, P)) (R : RD w x n i (-9) P.1.1 P.1.2.1) (hG : rdG w P) (hc : ¬ opQ P (x i)) {Q : Option Value → Wd → Prop} (hT : ∀ u j P2, i < j → j ≤ n → reachR x j (1, 0, 0, 0, P2) → RD u x n j (-9) P2.1.1 P2.1.2.1 → rdG u P2 → FrT w u → Q none u) (hF : ∀ u j k ns nl s, j ≤ n → textR x n (nI j) s → RD u x n k (nI j) ns nl → FrT w u → Q none u) : V mX4_readPart 0 [some (.ref 1), some (.int (x i)), none, none] [] w Q := by
  have hP : drP P := (reach_dr hr).dr
  have h5 : P.1.1 ≤ 5 := hP.1.1
  have h4 : P.1.2.1 ≤ 4 := hP.1.2.1
  refine li_4_1 1 dX4_readPart_0 rfl ?_
  refine v_bipush (v := 83) 3 dX4_readPart_1 rfl kb_83 ?_
  refine v_icmp_ne 94 6 dX4_readPart_3 rfl rfl (fun h3 => ?_) (fun h3 => ?_)
  · refine li_4_1 95 dX4_readPart_94 rfl ?_
    refine v_bipush (v := 74) 97 dX4_readPart_95 rfl kb_74 ?_
    refine v_icmp_ne 189 100 dX4_readPart_97 rfl rfl (fun h97 => ?_) (fun h97 => ?_)
    · refine li_4_1 190 dX4_readPart_189 rfl ?_
      refine v_bipush (v := 76) 192 dX4_readPart_190 rfl kb_76 ?_
      refine v_icmp_ne 264 195 dX4_readPart_192 rfl rfl (fun h192 => ?_) (fun h192 => ?_)
      · refine la_4_0 265 dX4_readPart_264 rfl ?_
        refine la_4_0 266 dX4_readPart_265 rfl ?_
        refine vg_X4_66 rfl 269 dX4_readPart_266 rfl ?_
        rw [R.2.2.1]
        refine vs_X4_63 rfl 272 dX4_readPart_269 rfl ?_
        refine vI (fun v5 a5 b5 c5 => ?_)
        refine v_vret dX4_readPart_272 rfl ?_
        exact hF v5 i _ _ _ (1, 0, 0, 0, P) (by omega) (Or.inl ⟨i, hi, hr, fun ⟨t, kt⟩ => hc kt.1, rfl⟩) (R.iF a5 b5 c5) (FrT.ofI (j := 22) (by omega) b5 c5)
      · refine la_4_0 196 dX4_readPart_195 rfl ?_
        refine vg_X4_82 rfl 199 dX4_readPart_196 rfl ?_
        rw [R.2.2.2.2.2]
        refine v_iconst (v := 4) 200 dX4_readPart_199 rfl ki_4 ?_
        refine v_icmp_ge 264 203 dX4_readPart_200 rfl rfl (fun h200 => ?_) (fun h200 => ?_)
        · refine la_4_0 265 dX4_readPart_264 rfl ?_
          refine la_4_0 266 dX4_readPart_265 rfl ?_
          refine vg_X4_66 rfl 269 dX4_readPart_266 rfl ?_
          rw [R.2.2.1]
          refine vs_X4_63 rfl 272 dX4_readPart_269 rfl ?_
          refine vI (fun v5 a5 b5 c5 => ?_)
          refine v_vret dX4_readPart_272 rfl ?_
          exact hF v5 i _ _ _ (1, 0, 0, 0, P) (by omega) (Or.inl ⟨i, hi, hr, fun ⟨t, kt⟩ => hc kt.1, rfl⟩) (R.iF a5 b5 c5) (FrT.ofI (j := 22) (by omega) b5 c5)
        · exact absurd (Or.inr (Or.inr ⟨h192, by rw [show (4 : Int32) = nI 4 from rfl, nI_leI (by omega) (by omega)] at h200; omega⟩)) hc
    · refine la_4_0 101 dX4_readPart_100 rfl ?_
      refine v_cVI0 104 dX4_readPart_101 rfl fvX4_firstsLeft fiX4_firstsLeft ml_X4_92 (seX4) rfl ⟨(Nat.le_of_ble_eq_true rfl), (Nat.le_of_ble_eq_true rfl)⟩ (Nat.le_of_ble_eq_true rfl) (Nat.le_of_ble_eq_true rfl) (c_X4_firstsLeft R.2.2.2.2.1 h5 (fun s hs => (hG.1 s hs).2.2.2) ⟨_, rfl, ?_⟩) rfl
      refine v_if_eq 189 107 dX4_readPart_104 rfl rfl (fun h104 => ?_) (fun h104 => ?_)
      · refine li_4_1 190 dX4_readPart_189 rfl ?_
        refine v_bipush (v := 76) 192 dX4_readPart_190 rfl kb_76 ?_
        refine v_icmp_ne 264 195 dX4_readPart_192 rfl rfl (fun h192 => ?_) (fun h192 => ?_)
        · refine la_4_0 265 dX4_readPart_264 rfl ?_
          refine la_4_0 266 dX4_readPart_265 rfl ?_
          refine vg_X4_66 rfl 269 dX4_readPart_266 rfl ?_
          rw [R.2.2.1]
          refine vs_X4_63 rfl 272 dX4_readPart_269 rfl ?_
          refine vI (fun v5 a5 b5 c5 => ?_)
          refine v_vret dX4_readPart_272 rfl ?_
          exact hF v5 i _ _ _ (1, 0, 0, 0, P) (by omega) (Or.inl ⟨i, hi, hr, fun ⟨t, kt⟩ => hc kt.1, rfl⟩) (R.iF a5 b5 c5) (FrT.ofI (j := 22) (by omega) b5 c5)
        · exact absurd (h97.symm.trans h192) (by decide)
      · exact absurd (Or.inr (Or.inl ⟨h97, (fl_0 hP).mp h104⟩)) hc
  · refine la_4_0 7 dX4_readPart_6 rfl ?_
    refine vg_X4_75 rfl 10 dX4_readPart_7 rfl ?_
    rw [R.2.2.2.2.1]
    refine v_iconst (v := 5) 11 dX4_readPart_10 rfl ki_5 ?_
    refine v_icmp_ge 94 14 dX4_readPart_11 rfl rfl (fun h11 => ?_) (fun h11 => ?_)
    · refine li_4_1 95 dX4_readPart_94 rfl ?_
      refine v_bipush (v := 74) 97 dX4_readPart_95 rfl kb_74 ?_
      refine v_icmp_ne 189 100 dX4_readPart_97 rfl rfl (fun h97 => ?_) (fun h97 => ?_)
      · refine li_4_1 190 dX4_readPart_189 rfl ?_
        refine v_bipush (v := 76) 192 dX4_readPart_190 rfl kb_76 ?_
        refine v_icmp_ne 264 195 dX4_readPart_192 rfl rfl (fun h192 => ?_) (fun h192 => ?_)
        · refine la_4_0 265 dX4_readPart_264 rfl ?_
          refine la_4_0 266 dX4_readPart_265 rfl ?_
          refine vg_X4_66 rfl 269 dX4_readPart_266 rfl ?_
          rw [R.2.2.1]
          refine vs_X4_63 rfl 272 dX4_readPart_269 rfl ?_
          refine vI (fun v5 a5 b5 c5 => ?_)
          refine v_vret dX4_readPart_272 rfl ?_
          exact hF v5 i _ _ _ (1, 0, 0, 0, P) (by omega) (Or.inl ⟨i, hi, hr, fun ⟨t, kt⟩ => hc kt.1, rfl⟩) (R.iF a5 b5 c5) (FrT.ofI (j := 22) (by omega) b5 c5)
        · exact absurd (h3.symm.trans h192) (by decide)
      · exact absurd (h3.symm.trans h97) (by decide)
    · exact absurd (Or.inl ⟨h3, by rw [show (5 : Int32) = nI 5 from rfl, nI_leI (by omega) (by omega)] at h11; omega⟩) hc
theorem c_X4_readPart {w : Wd} {x : Nat → Int32} {n i : Nat} {P : PT} (hn : n ≤ 48) (hi : i < n) (hr : reachR x i (1, 0, 0, 0, P)) (R : RD w x n i (-9) P.1.1 P.1.2.1) (hG : rdG w P) {Q : Option Value → Wd → Prop} (hT : ∀ u j P2, i < j → j ≤ n → reachR x j (1, 0, 0, 0, P2) → RD u x n j (-9) P2.1.1 P2.1.2.1 → rdG u P2 → FrT w u → Q none u) (hF : ∀ u j k ns nl s, j ≤ n → textR x n (nI j) s → RD u x n k (nI j) ns nl → FrT w u → Q none u) : V mX4_readPart 0 [some (.ref 1), some (.int (x i)), none, none] [] w Q := by
  by_cases hc : opQ P (x i)
  · rcases hc with ⟨h1, h2⟩ | ⟨h1, h2⟩ | ⟨h1, h2⟩
    · exact c_rpS hn hi hr R hG h1 h2 hT hF
    · exact c_rpJ hn hi hr R hG h1 h2 hT hF
    · exact c_rpL hn hi hr R hG h1 h2 hT hF
  · exact c_rpE hn hi hr R hG hc hT hF

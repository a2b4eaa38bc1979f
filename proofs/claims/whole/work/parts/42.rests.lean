/-- content: a what it is good for alone, t it takes, o the other takes -/
def contB (a : Int32) (t o : Nat) : Bool := if t = 1 then decide (0 ≤ a - 3 * nI o) else decide (a - 3 * nI o ≤ 0)
def restN (a c : Int32) : Nat → Int32 × Int32
  | 0 => (0, -9)
  | k + 1 => if contB a (k / 2) (k % 2) && contB c (k % 2) (k / 2) then ((restN a c k).1 + 1, if (restN a c k).1 = 0 then 10 * nI (k / 2) + nI (k % 2) else (restN a c k).2) else restN a c k
def aloneF (P : PT) (l s : Nat) : Int32 := rateP P s - P.2 5 l / 3
noncomputable def restsF (P : PT) (i j s x : Int32) : Int32 := ifP (¬ (inQ i P.1.2.1 ∧ inQ j P.1.2.1 ∧ inQ s P.1.1)) (-1) (ifP (i = j ∨ ¬ inQ x 2) (-2) (ifP (¬ P.2 7 (kk i) = 0 ∨ ¬ P.2 7 (kk j) = 0) (-3) (if x = 0 then (restN (aloneF P (kk i) (kk s)) (aloneF P (kk j) (kk s)) 4).1 else (restN (aloneF P (kk i) (kk s)) (aloneF P (kk j) (kk s)) 4).2)))
theorem three0 (a : Int32) : a - 3 * nI 0 = a := by rw [show (3 : Int32) * nI 0 = 0 from by decide, Int32.sub_zero]
theorem three1 (a : Int32) : a - 3 * nI 1 = a - 3 := by rw [show (3 : Int32) * nI 1 = 3 from by decide]
theorem half {k : Nat} (h : k < 1000) : nI k / 2 = nI (k / 2) := pk_div (a := k) (d := 2) (by omega) (by omega) (by omega)
set_option maxHeartbeats 4000000 in
set_option maxRecDepth 100000 in
theorem c_X3_isContent {w : Wd} {a : Int32} {t o : Nat} (ht : t < 2) (ho : o < 2) {Q : Option Value → Wd → Prop} (hT : contB a t o = true → Q (some (.int 1)) w) (hF : contB a t o = false → Q (some (.int 0)) w) : V mX3_isContent 0 [some (.int a), some (.int (nI t)), some (.int (nI o)), none] [] w Q := by
  refine li_4_2 1 dX3_isContent_0 rfl ?_
  refine v_iconst (v := 1) 2 dX3_isContent_1 rfl ki_1 ?_
  refine v_icmp_ne 11 5 dX3_isContent_2 rfl rfl (fun h2 => ?_) (fun h2 => ?_)
  · have go1 : ¬ o = 1 := fun kz => h2 (by rw [kz]; rfl)
    have go : o = 0 := by omega
    subst go
    refine li_4_0 12 dX3_isContent_11 rfl ?_
    refine si_4_3 rfl 13 dX3_isContent_12 rfl rfl ?_
    refine li_4_1 14 dX3_isContent_13 rfl ?_
    refine v_iconst (v := 1) 15 dX3_isContent_14 rfl ki_1 ?_
    refine v_icmp_ne 30 18 dX3_isContent_15 rfl rfl (fun h15 => ?_) (fun h15 => ?_)
    · have gt1 : ¬ t = 1 := fun kz => h15 (by rw [kz]; rfl)
      refine li_4_3 31 dX3_isContent_30 rfl ?_
      refine v_if_gt 38 34 dX3_isContent_31 rfl rfl (fun h31 => ?_) (fun h31 => ?_)
      · refine v_iconst (v := 0) 39 dX3_isContent_38 rfl ki_0 ?_
        refine v_zret dX3_isContent_39 rfl (Or.inl rfl) ?_
        unfold contB at hT hF
        first
          | (rw [if_neg gt1, three0] at hT hF; first | exact hF (decide_eq_false (i_nle.mpr h31)) | exact hT (decide_eq_true (i_nlt.mp h31)))
          | (rw [if_neg gt1, three1] at hT hF; first | exact hF (decide_eq_false (i_nle.mpr h31)) | exact hT (decide_eq_true (i_nlt.mp h31)))
          | (rw [if_pos gt1, three0] at hT hF; first | exact hF (decide_eq_false (i_nle.mpr h19)) | exact hT (decide_eq_true (i_nlt.mp h19)))
          | (rw [if_pos gt1, three1] at hT hF; first | exact hF (decide_eq_false (i_nle.mpr h19)) | exact hT (decide_eq_true (i_nlt.mp h19)))
      · refine v_iconst (v := 1) 35 dX3_isContent_34 rfl ki_1 ?_
        refine v_goto 39 dX3_isContent_35 rfl ?_
        refine v_zret dX3_isContent_39 rfl (Or.inr rfl) ?_
        unfold contB at hT hF
        first
          | (rw [if_neg gt1, three0] at hT hF; first | exact hF (decide_eq_false (i_nle.mpr h31)) | exact hT (decide_eq_true (i_nlt.mp h31)))
          | (rw [if_neg gt1, three1] at hT hF; first | exact hF (decide_eq_false (i_nle.mpr h31)) | exact hT (decide_eq_true (i_nlt.mp h31)))
          | (rw [if_pos gt1, three0] at hT hF; first | exact hF (decide_eq_false (i_nle.mpr h19)) | exact hT (decide_eq_true (i_nlt.mp h19)))
          | (rw [if_pos gt1, three1] at hT hF; first | exact hF (decide_eq_false (i_nle.mpr h19)) | exact hT (decide_eq_true (i_nlt.mp h19)))
    · have gt1 : t = 1 := nI_inj (b := 1) (by omega) (by omega) h15
      refine li_4_3 19 dX3_isContent_18 rfl ?_
      refine v_if_lt 26 22 dX3_isContent_19 rfl rfl (fun h19 => ?_) (fun h19 => ?_)
      · refine v_iconst (v := 0) 27 dX3_isContent_26 rfl ki_0 ?_
        refine v_goto 39 dX3_isContent_27 rfl ?_
        refine v_zret dX3_isContent_39 rfl (Or.inl rfl) ?_
        unfold contB at hT hF
        first
          | (rw [if_neg gt1, three0] at hT hF; first | exact hF (decide_eq_false (i_nle.mpr h31)) | exact hT (decide_eq_true (i_nlt.mp h31)))
          | (rw [if_neg gt1, three1] at hT hF; first | exact hF (decide_eq_false (i_nle.mpr h31)) | exact hT (decide_eq_true (i_nlt.mp h31)))
          | (rw [if_pos gt1, three0] at hT hF; first | exact hF (decide_eq_false (i_nle.mpr h19)) | exact hT (decide_eq_true (i_nlt.mp h19)))
          | (rw [if_pos gt1, three1] at hT hF; first | exact hF (decide_eq_false (i_nle.mpr h19)) | exact hT (decide_eq_true (i_nlt.mp h19)))
      · refine v_iconst (v := 1) 23 dX3_isContent_22 rfl ki_1 ?_
        refine v_goto 39 dX3_isContent_23 rfl ?_
        refine v_zret dX3_isContent_39 rfl (Or.inr rfl) ?_
        unfold contB at hT hF
        first
          | (rw [if_neg gt1, three0] at hT hF; first | exact hF (decide_eq_false (i_nle.mpr h31)) | exact hT (decide_eq_true (i_nlt.mp h31)))
          | (rw [if_neg gt1, three1] at hT hF; first | exact hF (decide_eq_false (i_nle.mpr h31)) | exact hT (decide_eq_true (i_nlt.mp h31)))
          | (rw [if_pos gt1, three0] at hT hF; first | exact hF (decide_eq_false (i_nle.mpr h19)) | exact hT (decide_eq_true (i_nlt.mp h19)))
          | (rw [if_pos gt1, three1] at hT hF; first | exact hF (decide_eq_false (i_nle.mpr h19)) | exact hT (decide_eq_true (i_nlt.mp h19)))
  · have go : o = 1 := nI_inj (b := 1) (by omega) (by omega) h2
    subst go
    refine li_4_0 6 dX3_isContent_5 rfl ?_
    refine v_iconst (v := 3) 7 dX3_isContent_6 rfl ki_3 ?_
    refine v_isub 8 dX3_isContent_7 rfl ?_
    refine v_goto 12 dX3_isContent_8 rfl ?_
    refine si_4_3 rfl 13 dX3_isContent_12 rfl rfl ?_
    refine li_4_1 14 dX3_isContent_13 rfl ?_
    refine v_iconst (v := 1) 15 dX3_isContent_14 rfl ki_1 ?_
    refine v_icmp_ne 30 18 dX3_isContent_15 rfl rfl (fun h15 => ?_) (fun h15 => ?_)
    · have gt1 : ¬ t = 1 := fun kz => h15 (by rw [kz]; rfl)
      refine li_4_3 31 dX3_isContent_30 rfl ?_
      refine v_if_gt 38 34 dX3_isContent_31 rfl rfl (fun h31 => ?_) (fun h31 => ?_)
      · refine v_iconst (v := 0) 39 dX3_isContent_38 rfl ki_0 ?_
        refine v_zret dX3_isContent_39 rfl (Or.inl rfl) ?_
        unfold contB at hT hF
        first
          | (rw [if_neg gt1, three0] at hT hF; first | exact hF (decide_eq_false (i_nle.mpr h31)) | exact hT (decide_eq_true (i_nlt.mp h31)))
          | (rw [if_neg gt1, three1] at hT hF; first | exact hF (decide_eq_false (i_nle.mpr h31)) | exact hT (decide_eq_true (i_nlt.mp h31)))
          | (rw [if_pos gt1, three0] at hT hF; first | exact hF (decide_eq_false (i_nle.mpr h19)) | exact hT (decide_eq_true (i_nlt.mp h19)))
          | (rw [if_pos gt1, three1] at hT hF; first | exact hF (decide_eq_false (i_nle.mpr h19)) | exact hT (decide_eq_true (i_nlt.mp h19)))
      · refine v_iconst (v := 1) 35 dX3_isContent_34 rfl ki_1 ?_
        refine v_goto 39 dX3_isContent_35 rfl ?_
        refine v_zret dX3_isContent_39 rfl (Or.inr rfl) ?_
        unfold contB at hT hF
        first
          | (rw [if_neg gt1, three0] at hT hF; first | exact hF (decide_eq_false (i_nle.mpr h31)) | exact hT (decide_eq_true (i_nlt.mp h31)))
          | (rw [if_neg gt1, three1] at hT hF; first | exact hF (decide_eq_false (i_nle.mpr h31)) | exact hT (decide_eq_true (i_nlt.mp h31)))
          | (rw [if_pos gt1, three0] at hT hF; first | exact hF (decide_eq_false (i_nle.mpr h19)) | exact hT (decide_eq_true (i_nlt.mp h19)))
          | (rw [if_pos gt1, three1] at hT hF; first | exact hF (decide_eq_false (i_nle.mpr h19)) | exact hT (decide_eq_true (i_nlt.mp h19)))
    · have gt1 : t = 1 := nI_inj (b := 1) (by omega) (by omega) h15
      refine li_4_3 19 dX3_isContent_18 rfl ?_
      refine v_if_lt 26 22 dX3_isContent_19 rfl rfl (fun h19 => ?_) (fun h19 => ?_)
      · refine v_iconst (v := 0) 27 dX3_isContent_26 rfl ki_0 ?_
        refine v_goto 39 dX3_isContent_27 rfl ?_
        refine v_zret dX3_isContent_39 rfl (Or.inl rfl) ?_
        unfold contB at hT hF
        first
          | (rw [if_neg gt1, three0] at hT hF; first | exact hF (decide_eq_false (i_nle.mpr h31)) | exact hT (decide_eq_true (i_nlt.mp h31)))
          | (rw [if_neg gt1, three1] at hT hF; first | exact hF (decide_eq_false (i_nle.mpr h31)) | exact hT (decide_eq_true (i_nlt.mp h31)))
          | (rw [if_pos gt1, three0] at hT hF; first | exact hF (decide_eq_false (i_nle.mpr h19)) | exact hT (decide_eq_true (i_nlt.mp h19)))
          | (rw [if_pos gt1, three1] at hT hF; first | exact hF (decide_eq_false (i_nle.mpr h19)) | exact hT (decide_eq_true (i_nlt.mp h19)))
      · refine v_iconst (v := 1) 23 dX3_isContent_22 rfl ki_1 ?_
        refine v_goto 39 dX3_isContent_23 rfl ?_
        refine v_zret dX3_isContent_39 rfl (Or.inr rfl) ?_
        unfold contB at hT hF
        first
          | (rw [if_neg gt1, three0] at hT hF; first | exact hF (decide_eq_false (i_nle.mpr h31)) | exact hT (decide_eq_true (i_nlt.mp h31)))
          | (rw [if_neg gt1, three1] at hT hF; first | exact hF (decide_eq_false (i_nle.mpr h31)) | exact hT (decide_eq_true (i_nlt.mp h31)))
          | (rw [if_pos gt1, three0] at hT hF; first | exact hF (decide_eq_false (i_nle.mpr h19)) | exact hT (decide_eq_true (i_nlt.mp h19)))
          | (rw [if_pos gt1, three1] at hT hF; first | exact hF (decide_eq_false (i_nle.mpr h19)) | exact hT (decide_eq_true (i_nlt.mp h19)))
set_option maxHeartbeats 4000000 in
set_option maxRecDepth 100000 in
theorem c_X3_rests {w : Wd} {P : PT} {T : TT} {A : AT} {U : Nat → Bool} {K : Nat → PT} {N : NT} {z : Int64} (hS : cS w P T A U K N z) {i j s x : Int32} {Q : Option Value → Wd → Prop} (hQ : Q (some (.int (restsF P i j s x))) w) : V mX3_rests 0 [some (.ref 0), some (.int i), some (.int j), some (.int s), some (.int x), none, none, none, none, none, none, none] [] w Q := by
  have b5 := hS.1.2.2.2.2.1
  have b4 := hS.1.2.2.2.2.2.1
  have key : ∀ a c, Q (some (.int (if x = 0 then (restN a c 4).1 else (restN a c 4).2))) w → ∀ k, k ≤ 4 → V mX3_rests 135 [some (.ref 0), some (.int i), some (.int j), some (.int s), some (.int x), some (.int a), some (.int c), some (.int (restN a c k).1), some (.int (restN a c k).2), some (.int (nI k)), none, none] [] w Q := by
    intro a c hQ
    refine up (fun k hk ih => ?_)
    refine li_12_9 137 dX3_rests_135 rfl ?_
    refine v_iconst (v := 4) 138 dX3_rests_137 rfl ki_4 ?_
    refine v_icmp_ge 206 141 dX3_rests_138 rfl rfl (fun h138 => ?_) (fun h138 => ?_)
    · obtain rfl := ge_eq (n := 4) h138 hk (by omega)
      refine li_12_4 208 dX3_rests_206 rfl ?_
      refine v_if_ne 216 211 dX3_rests_208 rfl rfl (fun h208 => ?_) (fun h208 => ?_)
      · rw [if_neg h208] at hQ
        refine li_12_8 218 dX3_rests_216 rfl ?_
        refine v_iret dX3_rests_218 rfl ?_
        exact hQ
      · rw [if_pos h208] at hQ
        refine li_12_7 213 dX3_rests_211 rfl ?_
        refine v_goto 218 dX3_rests_213 rfl ?_
        refine v_iret dX3_rests_218 rfl ?_
        exact hQ
    · have hlt := ge_lt (n := 4) h138 (by omega) (by omega)
      refine li_12_9 143 dX3_rests_141 rfl ?_
      refine v_iconst (v := 2) 144 dX3_rests_143 rfl ki_2 ?_
      refine v_idiv 145 dX3_rests_144 rfl (by decide) ?_
      rw [half (by omega)]
      refine si_12_10 rfl 147 dX3_rests_145 rfl rfl ?_
      refine li_12_9 149 dX3_rests_147 rfl ?_
      refine v_iconst (v := 2) 150 dX3_rests_149 rfl ki_2 ?_
      refine v_irem 151 dX3_rests_150 rfl (by decide) ?_
      rw [rem2 (by omega)]
      refine si_12_11 rfl 153 dX3_rests_151 rfl rfl ?_
      refine li_12_5 155 dX3_rests_153 rfl ?_
      refine li_12_10 157 dX3_rests_155 rfl ?_
      refine li_12_11 159 dX3_rests_157 rfl ?_
      refine v_cSI3 162 dX3_rests_159 rfl fvX3_isContent fsX3_isContent ml_X3_204 ⟨(Nat.le_of_ble_eq_true rfl), (Nat.le_of_ble_eq_true rfl)⟩ (Nat.le_of_ble_eq_true rfl) (Nat.le_of_ble_eq_true rfl) (c_X3_isContent (by omega) (by omega) (fun q159 => ⟨_, rfl, ?_⟩) (fun q159 => ⟨_, rfl, ?_⟩)) rfl
      · refine v_if_eq 200 165 dX3_rests_162 rfl rfl (fun h => absurd h (by decide)) (fun _ => ?_)
        refine li_12_6 167 dX3_rests_165 rfl ?_
        refine li_12_11 169 dX3_rests_167 rfl ?_
        refine li_12_10 171 dX3_rests_169 rfl ?_
        refine v_cSI3 174 dX3_rests_171 rfl fvX3_isContent fsX3_isContent ml_X3_204 ⟨(Nat.le_of_ble_eq_true rfl), (Nat.le_of_ble_eq_true rfl)⟩ (Nat.le_of_ble_eq_true rfl) (Nat.le_of_ble_eq_true rfl) (c_X3_isContent (by omega) (by omega) (fun q171 => ⟨_, rfl, ?_⟩) (fun q171 => ⟨_, rfl, ?_⟩)) rfl
        · refine v_if_eq 200 177 dX3_rests_174 rfl rfl (fun h => absurd h (by decide)) (fun _ => ?_)
          refine li_12_7 179 dX3_rests_177 rfl ?_
          refine v_if_ne 193 182 dX3_rests_179 rfl rfl (fun h179 => ?_) (fun h179 => ?_)
          · refine li_12_8 195 dX3_rests_193 rfl ?_
            refine si_12_8 rfl 197 dX3_rests_195 rfl rfl ?_
            refine ic_12_7 rfl 200 dX3_rests_197 rfl ki_1 rfl ?_
            refine icn_12_9 rfl 203 dX3_rests_200 rfl rfl ?_
            refine v_goto 135 dX3_rests_203 rfl ?_
            refine fg_12_10 ?_
            refine fg_12_11 ?_
            have e := ih hlt
            simp only [restN, q159, q171, h179, Bool.and_true, Bool.true_and, Bool.and_false, Bool.false_and, reduceIte, Bool.false_eq_true] at e
            exact e
          · refine v_bipush (v := 10) 184 dX3_rests_182 rfl kb_10 ?_
            refine li_12_10 186 dX3_rests_184 rfl ?_
            refine v_imul 187 dX3_rests_186 rfl ?_
            refine li_12_11 189 dX3_rests_187 rfl ?_
            refine v_iadd 190 dX3_rests_189 rfl ?_
            refine v_goto 195 dX3_rests_190 rfl ?_
            refine si_12_8 rfl 197 dX3_rests_195 rfl rfl ?_
            refine ic_12_7 rfl 200 dX3_rests_197 rfl ki_1 rfl ?_
            refine icn_12_9 rfl 203 dX3_rests_200 rfl rfl ?_
            refine v_goto 135 dX3_rests_203 rfl ?_
            refine fg_12_10 ?_
            refine fg_12_11 ?_
            have e := ih hlt
            simp only [restN, q159, q171, h179, Bool.and_true, Bool.true_and, Bool.and_false, Bool.false_and, reduceIte, Bool.false_eq_true] at e
            rw [h179]
            exact e
        · refine v_if_eq 200 177 dX3_rests_174 rfl rfl (fun _ => ?_) (fun h => absurd rfl h)
          refine icn_12_9 rfl 203 dX3_rests_200 rfl rfl ?_
          refine v_goto 135 dX3_rests_203 rfl ?_
          refine fg_12_10 ?_
          refine fg_12_11 ?_
          have e := ih hlt
          simp only [restN, q159, q171, Bool.and_true, Bool.true_and, Bool.and_false, Bool.false_and, reduceIte, Bool.false_eq_true] at e
          exact e
      · refine v_if_eq 200 165 dX3_rests_162 rfl rfl (fun _ => ?_) (fun h => absurd rfl h)
        refine icn_12_9 rfl 203 dX3_rests_200 rfl rfl ?_
        refine v_goto 135 dX3_rests_203 rfl ?_
        refine fg_12_10 ?_
        refine fg_12_11 ?_
        have e := ih hlt
        simp only [restN, q159, Bool.and_true, Bool.true_and, Bool.and_false, Bool.false_and, reduceIte, Bool.false_eq_true] at e
        exact e
  refine la_12_0 1 dX3_rests_0 rfl ?_
  refine vg_X3_23 rfl 4 dX3_rests_1 rfl ?_
  refine li_12_1 5 dX3_rests_4 rfl ?_
  refine v_cVI1 8 dX3_rests_5 rfl fvX1_hasLetter fiX1_hasLetter ml_X3_108 (seX1 hb0) rfl ⟨(Nat.le_of_ble_eq_true rfl), (Nat.le_of_ble_eq_true rfl)⟩ (Nat.le_of_ble_eq_true rfl) (Nat.le_of_ble_eq_true rfl) (c_X1_hasLetter hb0 hS.1 (fun q5 => ⟨_, rfl, ?_⟩) (fun q5 => ⟨_, rfl, ?_⟩)) rfl
  · refine v_if_eq 33 11 dX3_rests_8 rfl rfl (fun h => absurd h (by decide)) (fun _ => ?_)
    refine la_12_0 12 dX3_rests_11 rfl ?_
    refine vg_X3_23 rfl 15 dX3_rests_12 rfl ?_
    refine li_12_2 16 dX3_rests_15 rfl ?_
    refine v_cVI1 19 dX3_rests_16 rfl fvX1_hasLetter fiX1_hasLetter ml_X3_108 (seX1 hb0) rfl ⟨(Nat.le_of_ble_eq_true rfl), (Nat.le_of_ble_eq_true rfl)⟩ (Nat.le_of_ble_eq_true rfl) (Nat.le_of_ble_eq_true rfl) (c_X1_hasLetter hb0 hS.1 (fun q16 => ⟨_, rfl, ?_⟩) (fun q16 => ⟨_, rfl, ?_⟩)) rfl
    · refine v_if_eq 33 22 dX3_rests_19 rfl rfl (fun h => absurd h (by decide)) (fun _ => ?_)
      refine la_12_0 23 dX3_rests_22 rfl ?_
      refine vg_X3_23 rfl 26 dX3_rests_23 rfl ?_
      refine li_12_3 27 dX3_rests_26 rfl ?_
      refine v_cVI1 30 dX3_rests_27 rfl fvX1_hasStamp fiX1_hasStamp ml_X3_79 (seX1 hb0) rfl ⟨(Nat.le_of_ble_eq_true rfl), (Nat.le_of_ble_eq_true rfl)⟩ (Nat.le_of_ble_eq_true rfl) (Nat.le_of_ble_eq_true rfl) (c_X1_hasStamp hb0 hS.1 (fun q27 => ⟨_, rfl, ?_⟩) (fun q27 => ⟨_, rfl, ?_⟩)) rfl
      · obtain ⟨m1, hm1, rfl⟩ := q5
        obtain ⟨m2, hm2, rfl⟩ := q16
        obtain ⟨k1, hk1, rfl⟩ := q27
        refine v_if_ne 35 33 dX3_rests_30 rfl rfl (fun _ => ?_) (fun h => absurd h (by decide))
        refine li_12_1 36 dX3_rests_35 rfl ?_
        refine li_12_2 37 dX3_rests_36 rfl ?_
        refine v_icmp_eq 51 40 dX3_rests_37 rfl rfl (fun h37 => ?_) (fun h37 => ?_)
        · refine v_bipush (v := (-2)) 53 dX3_rests_51 rfl kb_m2 ?_
          refine v_iret dX3_rests_53 rfl ?_
          rw [show restsF P (nI m1) (nI m2) (nI k1) x = -2 from by unfold restsF; rw [kk_nI (by omega), kk_nI (by omega), kk_nI (by omega)]; exact (ifP_neg (fun q => q ⟨⟨m1, hm1, rfl⟩, ⟨m2, hm2, rfl⟩, ⟨k1, hk1, rfl⟩⟩)).trans (ifP_pos (Or.inl h37))] at hQ
          exact hQ
        · refine li_12_4 42 dX3_rests_40 rfl ?_
          refine v_if_lt 51 45 dX3_rests_42 rfl rfl (fun h42 => ?_) (fun h42 => ?_)
          · refine v_bipush (v := (-2)) 53 dX3_rests_51 rfl kb_m2 ?_
            refine v_iret dX3_rests_53 rfl ?_
            rw [show restsF P (nI m1) (nI m2) (nI k1) x = -2 from by unfold restsF; rw [kk_nI (by omega), kk_nI (by omega), kk_nI (by omega)]; exact (ifP_neg (fun q => q ⟨⟨m1, hm1, rfl⟩, ⟨m2, hm2, rfl⟩, ⟨k1, hk1, rfl⟩⟩)).trans (ifP_pos (Or.inr (nQ_0 (by decide) h42)))] at hQ
            exact hQ
          · refine li_12_4 47 dX3_rests_45 rfl ?_
            refine v_iconst (v := 1) 48 dX3_rests_47 rfl ki_1 ?_
            refine v_icmp_le 54 51 dX3_rests_48 rfl rfl (fun h48 => ?_) (fun h48 => ?_)
            · refine la_12_0 55 dX3_rests_54 rfl ?_
              refine vg_X3_23 rfl 58 dX3_rests_55 rfl ?_
              refine vg_X3_123 hb0 rfl 61 dX3_rests_58 rfl ?_
              refine li_12_1 62 dX3_rests_61 rfl ?_
              refine vlq_X1_fate hb0 hS.1 _ 63 dX3_rests_62 rfl rfl hm1 ?_
              refine v_if_ne 78 66 dX3_rests_63 rfl rfl (fun h63 => ?_) (fun h63 => ?_)
              · refine v_bipush (v := (-3)) 80 dX3_rests_78 rfl kb_m3 ?_
                refine v_iret dX3_rests_80 rfl ?_
                rw [show restsF P (nI m1) (nI m2) (nI k1) x = -3 from by unfold restsF; rw [kk_nI (by omega), kk_nI (by omega), kk_nI (by omega)]; exact (ifP_neg (fun q => q ⟨⟨m1, hm1, rfl⟩, ⟨m2, hm2, rfl⟩, ⟨k1, hk1, rfl⟩⟩)).trans ((ifP_neg (fun q => q.elim h37 (fun q => q (inQ_1 h42 h48)))).trans (ifP_pos (Or.inl h63)))] at hQ
                exact hQ
              · refine la_12_0 67 dX3_rests_66 rfl ?_
                refine vg_X3_23 rfl 70 dX3_rests_67 rfl ?_
                refine vg_X3_123 hb0 rfl 73 dX3_rests_70 rfl ?_
                refine li_12_2 74 dX3_rests_73 rfl ?_
                refine vlq_X1_fate hb0 hS.1 _ 75 dX3_rests_74 rfl rfl hm2 ?_
                refine v_if_eq 81 78 dX3_rests_75 rfl rfl (fun h75 => ?_) (fun h75 => ?_)
                · refine la_12_0 82 dX3_rests_81 rfl ?_
                  refine vg_X3_23 rfl 85 dX3_rests_82 rfl ?_
                  refine li_12_3 86 dX3_rests_85 rfl ?_
                  refine v_cVI1 89 dX3_rests_86 rfl fvX1_rate fiX1_rate ml_X3_96 (seX1 hb0) rfl ⟨(Nat.le_of_ble_eq_true rfl), (Nat.le_of_ble_eq_true rfl)⟩ (Nat.le_of_ble_eq_true rfl) (Nat.le_of_ble_eq_true rfl) (c_X1_rate hb0 hS.1 hk1 ⟨_, rfl, ?_⟩) rfl
                  refine la_12_0 90 dX3_rests_89 rfl ?_
                  refine vg_X3_23 rfl 93 dX3_rests_90 rfl ?_
                  refine vg_X3_111 hb0 rfl 96 dX3_rests_93 rfl ?_
                  refine li_12_1 97 dX3_rests_96 rfl ?_
                  refine vlq_X1_left hb0 hS.1 _ 98 dX3_rests_97 rfl rfl hm1 ?_
                  refine v_iconst (v := 3) 99 dX3_rests_98 rfl ki_3 ?_
                  refine v_idiv 100 dX3_rests_99 rfl (by decide) ?_
                  refine v_isub 101 dX3_rests_100 rfl ?_
                  refine si_12_5 rfl 103 dX3_rests_101 rfl rfl ?_
                  refine la_12_0 104 dX3_rests_103 rfl ?_
                  refine vg_X3_23 rfl 107 dX3_rests_104 rfl ?_
                  refine li_12_3 108 dX3_rests_107 rfl ?_
                  refine v_cVI1 111 dX3_rests_108 rfl fvX1_rate fiX1_rate ml_X3_96 (seX1 hb0) rfl ⟨(Nat.le_of_ble_eq_true rfl), (Nat.le_of_ble_eq_true rfl)⟩ (Nat.le_of_ble_eq_true rfl) (Nat.le_of_ble_eq_true rfl) (c_X1_rate hb0 hS.1 hk1 ⟨_, rfl, ?_⟩) rfl
                  refine la_12_0 112 dX3_rests_111 rfl ?_
                  refine vg_X3_23 rfl 115 dX3_rests_112 rfl ?_
                  refine vg_X3_111 hb0 rfl 118 dX3_rests_115 rfl ?_
                  refine li_12_2 119 dX3_rests_118 rfl ?_
                  refine vlq_X1_left hb0 hS.1 _ 120 dX3_rests_119 rfl rfl hm2 ?_
                  refine v_iconst (v := 3) 121 dX3_rests_120 rfl ki_3 ?_
                  refine v_idiv 122 dX3_rests_121 rfl (by decide) ?_
                  refine v_isub 123 dX3_rests_122 rfl ?_
                  refine si_12_6 rfl 125 dX3_rests_123 rfl rfl ?_
                  refine v_iconst (v := 0) 126 dX3_rests_125 rfl ki_0 ?_
                  refine si_12_7 rfl 128 dX3_rests_126 rfl rfl ?_
                  refine v_bipush (v := (-9)) 130 dX3_rests_128 rfl kb_m9 ?_
                  refine si_12_8 rfl 132 dX3_rests_130 rfl rfl ?_
                  refine v_iconst (v := 0) 133 dX3_rests_132 rfl ki_0 ?_
                  refine si_12_9 rfl 135 dX3_rests_133 rfl rfl ?_
                  refine key (aloneF P m1 k1) (aloneF P m2 k1) ?_ 0 (Nat.zero_le _)
                  rw [show restsF P (nI m1) (nI m2) (nI k1) x = (if x = 0 then (restN (aloneF P m1 k1) (aloneF P m2 k1) 4).1 else (restN (aloneF P m1 k1) (aloneF P m2 k1) 4).2) from by unfold restsF; rw [kk_nI (by omega), kk_nI (by omega), kk_nI (by omega)]; exact (ifP_neg (fun q => q ⟨⟨m1, hm1, rfl⟩, ⟨m2, hm2, rfl⟩, ⟨k1, hk1, rfl⟩⟩)).trans ((ifP_neg (fun q => q.elim h37 (fun q => q (inQ_1 h42 h48)))).trans (ifP_neg (fun q => q.elim (fun q => q h63) (fun q => q h75))))] at hQ
                  exact hQ
                · refine v_bipush (v := (-3)) 80 dX3_rests_78 rfl kb_m3 ?_
                  refine v_iret dX3_rests_80 rfl ?_
                  rw [show restsF P (nI m1) (nI m2) (nI k1) x = -3 from by unfold restsF; rw [kk_nI (by omega), kk_nI (by omega), kk_nI (by omega)]; exact (ifP_neg (fun q => q ⟨⟨m1, hm1, rfl⟩, ⟨m2, hm2, rfl⟩, ⟨k1, hk1, rfl⟩⟩)).trans ((ifP_neg (fun q => q.elim h37 (fun q => q (inQ_1 h42 h48)))).trans (ifP_pos (Or.inr h75)))] at hQ
                  exact hQ
            · refine v_bipush (v := (-2)) 53 dX3_rests_51 rfl kb_m2 ?_
              refine v_iret dX3_rests_53 rfl ?_
              rw [show restsF P (nI m1) (nI m2) (nI k1) x = -2 from by unfold restsF; rw [kk_nI (by omega), kk_nI (by omega), kk_nI (by omega)]; exact (ifP_neg (fun q => q ⟨⟨m1, hm1, rfl⟩, ⟨m2, hm2, rfl⟩, ⟨k1, hk1, rfl⟩⟩)).trans (ifP_pos (Or.inr (nQ_1 h48)))] at hQ
              exact hQ
      · refine v_if_ne 35 33 dX3_rests_30 rfl rfl (fun h => absurd rfl h) (fun _ => ?_)
        refine v_iconst (v := (-1)) 34 dX3_rests_33 rfl ki_m1 ?_
        refine v_iret dX3_rests_34 rfl ?_
        rw [show restsF P i j s x = -1 from ifP_pos (fun q => q27 q.2.2)] at hQ
        exact hQ
    · refine v_if_eq 33 22 dX3_rests_19 rfl rfl (fun _ => ?_) (fun h => absurd rfl h)
      refine v_iconst (v := (-1)) 34 dX3_rests_33 rfl ki_m1 ?_
      refine v_iret dX3_rests_34 rfl ?_
      rw [show restsF P i j s x = -1 from ifP_pos (fun q => q16 q.2.1)] at hQ
      exact hQ
  · refine v_if_eq 33 11 dX3_rests_8 rfl rfl (fun _ => ?_) (fun h => absurd rfl h)
    refine v_iconst (v := (-1)) 34 dX3_rests_33 rfl ki_m1 ?_
    refine v_iret dX3_rests_34 rfl ?_
    rw [show restsF P i j s x = -1 from ifP_pos (fun q => q5 q.1)] at hQ
    exact hQ
def gainF (a : Int32) (t o : Nat) : Int32 := if t = 0 then 0 else a - 3 * nI o
theorem gain_le {a : Int32} {t o : Nat} (ht : t < 2) : contB a t o = decide (gainF a (1 - t) o ≤ gainF a t o) := by
  rcases (show t = 0 ∨ t = 1 by omega) with rfl | rfl <;> rfl
set_option maxHeartbeats 4000000 in
set_option maxRecDepth 100000 in
theorem c_X4_gain {w : Wd} {P : PT} (hM : isM w 0 P) (hkd : ∀ s, s < P.1.1 → P.2 2 s = 0 ∨ P.2 2 s = 1 ∨ P.2 2 s = 2 ∨ P.2 2 s = 3) {m k t o : Nat} (hm : m < P.1.2.1) (hk : k < P.1.1) (ht : t < 2) {Q : Option Value → Wd → Prop} (hQ : Q (some (.int (gainF (aloneF P m k) t o))) w) : V mX4_gain 0 [some (.ref 1), some (.int (nI m)), some (.int (nI k)), some (.int (nI t)), some (.int (nI o))] [] w Q := by
  refine li_5_3 1 dX4_gain_0 rfl ?_
  refine v_if_ne 8 4 dX4_gain_1 rfl rfl (fun h1 => ?_) (fun h1 => ?_)
  · have g : ¬ t = 0 := fun kz => h1 (by rw [kz]; rfl)
    refine la_5_0 9 dX4_gain_8 rfl ?_
    refine v_iconst (v := 0) 10 dX4_gain_9 rfl ki_0 ?_
    refine li_5_2 11 dX4_gain_10 rfl ?_
    refine v_cVI2 14 dX4_gain_11 rfl fvX4_rate fiX4_rate ml_X4_112 (seX4) rfl ⟨(Nat.le_of_ble_eq_true rfl), (Nat.le_of_ble_eq_true rfl)⟩ (Nat.le_of_ble_eq_true rfl) (Nat.le_of_ble_eq_true rfl) (c_X4_rate (l := 0) hM hb0 hkd hk ⟨_, rfl, ?_⟩) rfl
    refine la_5_0 15 dX4_gain_14 rfl ?_
    refine vg_X4_16 rfl 18 dX4_gain_15 rfl ?_
    refine v_bipush (v := 20) 20 dX4_gain_18 rfl kb_20 ?_
    refine li_5_1 21 dX4_gain_20 rfl ?_
    refine v_iadd 22 dX4_gain_21 rfl ?_
    refine vmn_5 hM hb0 _ 23 dX4_gain_22 rfl (ixC 20 m) hm ?_
    refine v_iconst (v := 3) 24 dX4_gain_23 rfl ki_3 ?_
    refine v_idiv 25 dX4_gain_24 rfl (by decide) ?_
    refine v_isub 26 dX4_gain_25 rfl ?_
    refine v_iconst (v := 3) 27 dX4_gain_26 rfl ki_3 ?_
    refine li_5_4 29 dX4_gain_27 rfl ?_
    refine v_imul 30 dX4_gain_29 rfl ?_
    refine v_isub 31 dX4_gain_30 rfl ?_
    refine v_iret dX4_gain_31 rfl ?_
    unfold gainF at hQ
    rw [if_neg g] at hQ
    exact hQ
  · have g : t = 0 := nI_inj (b := 0) (by omega) (by omega) h1
    refine v_iconst (v := 0) 5 dX4_gain_4 rfl ki_0 ?_
    refine v_goto 31 dX4_gain_5 rfl ?_
    refine v_iret dX4_gain_31 rfl ?_
    unfold gainF at hQ
    rw [if_pos g] at hQ
    exact hQ
set_option maxHeartbeats 4000000 in
set_option maxRecDepth 100000 in
theorem c_X4_isRest {w : Wd} {P : PT} (hM : isM w 0 P) (hkd : ∀ s, s < P.1.1 → P.2 2 s = 0 ∨ P.2 2 s = 1 ∨ P.2 2 s = 2 ∨ P.2 2 s = 3) {m1 m2 k t o : Nat} (h1 : m1 < P.1.2.1) (h2 : m2 < P.1.2.1) (hk : k < P.1.1) (ht : t < 2) (ho : o < 2) {Q : Option Value → Wd → Prop} (hT : (contB (aloneF P m1 k) t o && contB (aloneF P m2 k) o t) = true → Q (some (.int 1)) w) (hF : (contB (aloneF P m1 k) t o && contB (aloneF P m2 k) o t) = false → Q (some (.int 0)) w) : V mX4_isRest 0 [some (.ref 1), some (.int (nI m1)), some (.int (nI m2)), some (.int (nI k)), some (.int (nI t)), some (.int (nI o))] [] w Q := by
  refine la_6_0 1 dX4_isRest_0 rfl ?_
  refine li_6_1 2 dX4_isRest_1 rfl ?_
  refine li_6_3 3 dX4_isRest_2 rfl ?_
  refine v_iconst (v := 1) 4 dX4_isRest_3 rfl ki_1 ?_
  refine li_6_4 6 dX4_isRest_4 rfl ?_
  refine v_isub 7 dX4_isRest_6 rfl ?_
  rw [show (1 : Int32) - nI t = nI (1 - t) from pk_sub (a := 1) (by omega)]
  refine li_6_5 9 dX4_isRest_7 rfl ?_
  refine v_cVI4 12 dX4_isRest_9 rfl fvX4_gain fiX4_gain ml_X4_206 (seX4) rfl ⟨(Nat.le_of_ble_eq_true rfl), (Nat.le_of_ble_eq_true rfl)⟩ (Nat.le_of_ble_eq_true rfl) (Nat.le_of_ble_eq_true rfl) (c_X4_gain hM hkd h1 hk (by omega) ⟨_, rfl, ?_⟩) rfl
  refine la_6_0 13 dX4_isRest_12 rfl ?_
  refine li_6_1 14 dX4_isRest_13 rfl ?_
  refine li_6_3 15 dX4_isRest_14 rfl ?_
  refine li_6_4 17 dX4_isRest_15 rfl ?_
  refine li_6_5 19 dX4_isRest_17 rfl ?_
  refine v_cVI4 22 dX4_isRest_19 rfl fvX4_gain fiX4_gain ml_X4_206 (seX4) rfl ⟨(Nat.le_of_ble_eq_true rfl), (Nat.le_of_ble_eq_true rfl)⟩ (Nat.le_of_ble_eq_true rfl) (Nat.le_of_ble_eq_true rfl) (c_X4_gain hM hkd h1 hk ht ⟨_, rfl, ?_⟩) rfl
  refine v_icmp_gt 54 25 dX4_isRest_22 rfl rfl (fun h22 => ?_) (fun h22 => ?_)
  · refine v_iconst (v := 0) 55 dX4_isRest_54 rfl ki_0 ?_
    refine v_zret dX4_isRest_55 rfl (Or.inl rfl) ?_
    exact hF (by rw [gain_le ht, decide_eq_false (i_nle.mpr h22)]; rfl)
  · refine la_6_0 26 dX4_isRest_25 rfl ?_
    refine li_6_2 27 dX4_isRest_26 rfl ?_
    refine li_6_3 28 dX4_isRest_27 rfl ?_
    refine v_iconst (v := 1) 29 dX4_isRest_28 rfl ki_1 ?_
    refine li_6_5 31 dX4_isRest_29 rfl ?_
    refine v_isub 32 dX4_isRest_31 rfl ?_
    rw [show (1 : Int32) - nI o = nI (1 - o) from pk_sub (a := 1) (by omega)]
    refine li_6_4 34 dX4_isRest_32 rfl ?_
    refine v_cVI4 37 dX4_isRest_34 rfl fvX4_gain fiX4_gain ml_X4_206 (seX4) rfl ⟨(Nat.le_of_ble_eq_true rfl), (Nat.le_of_ble_eq_true rfl)⟩ (Nat.le_of_ble_eq_true rfl) (Nat.le_of_ble_eq_true rfl) (c_X4_gain hM hkd h2 hk (by omega) ⟨_, rfl, ?_⟩) rfl
    refine la_6_0 38 dX4_isRest_37 rfl ?_
    refine li_6_2 39 dX4_isRest_38 rfl ?_
    refine li_6_3 40 dX4_isRest_39 rfl ?_
    refine li_6_5 42 dX4_isRest_40 rfl ?_
    refine li_6_4 44 dX4_isRest_42 rfl ?_
    refine v_cVI4 47 dX4_isRest_44 rfl fvX4_gain fiX4_gain ml_X4_206 (seX4) rfl ⟨(Nat.le_of_ble_eq_true rfl), (Nat.le_of_ble_eq_true rfl)⟩ (Nat.le_of_ble_eq_true rfl) (Nat.le_of_ble_eq_true rfl) (c_X4_gain hM hkd h2 hk ho ⟨_, rfl, ?_⟩) rfl
    refine v_icmp_gt 54 50 dX4_isRest_47 rfl rfl (fun h47 => ?_) (fun h47 => ?_)
    · refine v_iconst (v := 0) 55 dX4_isRest_54 rfl ki_0 ?_
      refine v_zret dX4_isRest_55 rfl (Or.inl rfl) ?_
      exact hF (by rw [gain_le ho, decide_eq_false (i_nle.mpr h47), Bool.and_false])
    · refine v_iconst (v := 1) 51 dX4_isRest_50 rfl ki_1 ?_
      refine v_goto 55 dX4_isRest_51 rfl ?_
      refine v_zret dX4_isRest_55 rfl (Or.inr rfl) ?_
      exact hT (by rw [gain_le ht, gain_le ho, decide_eq_true (i_nlt.mp h22), decide_eq_true (i_nlt.mp h47)]; rfl)
set_option maxHeartbeats 4000000 in
set_option maxRecDepth 100000 in
theorem c_X4_rests {w : Wd} {P : PT} {T : TT} {A : AT} {U : Nat → Bool} {K : Nat → PT} {N : NT} {z : Int64} (hS : mS w P T A U K N z) (hkd : ∀ s, s < P.1.1 → P.2 2 s = 0 ∨ P.2 2 s = 1 ∨ P.2 2 s = 2 ∨ P.2 2 s = 3) {i j s x : Int32} {Q : Option Value → Wd → Prop} (hQ : Q (some (.int (restsF P i j s x))) w) : V mX4_rests 0 [some (.ref 1), some (.int i), some (.int j), some (.int s), some (.int x), none, none, none] [] w Q := by
  have b5 := hS.1.2.2.1
  have b4 := hS.1.2.2.2.1
  have key : ∀ m1 m2 k1, m1 < P.1.2.1 → m2 < P.1.2.1 → k1 < P.1.1 → Q (some (.int (if x = 0 then (restN (aloneF P m1 k1) (aloneF P m2 k1) 4).1 else (restN (aloneF P m1 k1) (aloneF P m2 k1) 4).2))) w → ∀ k, k ≤ 4 → V mX4_rests 82 [some (.ref 1), some (.int (nI m1)), some (.int (nI m2)), some (.int (nI k1)), some (.int x), some (.int (restN (aloneF P m1 k1) (aloneF P m2 k1) k).1), some (.int (restN (aloneF P m1 k1) (aloneF P m2 k1) k).2), some (.int (nI k))] [] w Q := by
    intro m1 m2 k1 hm1 hm2 hk1 hQ
    refine up (fun k hk ih => ?_)
    refine li_8_7 84 dX4_rests_82 rfl ?_
    refine v_iconst (v := 4) 85 dX4_rests_84 rfl ki_4 ?_
    refine v_icmp_ge 139 88 dX4_rests_85 rfl rfl (fun h85 => ?_) (fun h85 => ?_)
    · obtain rfl := ge_eq (n := 4) h85 hk (by omega)
      refine li_8_4 141 dX4_rests_139 rfl ?_
      refine v_if_ne 149 144 dX4_rests_141 rfl rfl (fun h141 => ?_) (fun h141 => ?_)
      · rw [if_neg h141] at hQ
        refine li_8_6 151 dX4_rests_149 rfl ?_
        refine v_iret dX4_rests_151 rfl ?_
        exact hQ
      · rw [if_pos h141] at hQ
        refine li_8_5 146 dX4_rests_144 rfl ?_
        refine v_goto 151 dX4_rests_146 rfl ?_
        refine v_iret dX4_rests_151 rfl ?_
        exact hQ
    · have hlt := ge_lt (n := 4) h85 (by omega) (by omega)
      refine la_8_0 89 dX4_rests_88 rfl ?_
      refine li_8_1 90 dX4_rests_89 rfl ?_
      refine li_8_2 91 dX4_rests_90 rfl ?_
      refine li_8_3 92 dX4_rests_91 rfl ?_
      refine li_8_7 94 dX4_rests_92 rfl ?_
      refine v_iconst (v := 2) 95 dX4_rests_94 rfl ki_2 ?_
      refine v_idiv 96 dX4_rests_95 rfl (by decide) ?_
      rw [half (by omega)]
      refine li_8_7 98 dX4_rests_96 rfl ?_
      refine v_iconst (v := 2) 99 dX4_rests_98 rfl ki_2 ?_
      refine v_irem 100 dX4_rests_99 rfl (by decide) ?_
      rw [rem2 (by omega)]
      refine v_cVI5 103 dX4_rests_100 rfl fvX4_isRest fiX4_isRest ml_X4_210 (seX4) rfl ⟨(Nat.le_of_ble_eq_true rfl), (Nat.le_of_ble_eq_true rfl)⟩ (Nat.le_of_ble_eq_true rfl) (Nat.le_of_ble_eq_true rfl) (c_X4_isRest hS.1 hkd hm1 hm2 hk1 (by omega) (by omega) (fun q100 => ⟨_, rfl, ?_⟩) (fun q100 => ⟨_, rfl, ?_⟩)) rfl
      · refine v_if_eq 133 106 dX4_rests_103 rfl rfl (fun h => absurd h (by decide)) (fun _ => ?_)
        refine li_8_5 108 dX4_rests_106 rfl ?_
        refine v_if_ne 126 111 dX4_rests_108 rfl rfl (fun h108 => ?_) (fun h108 => ?_)
        · refine li_8_6 128 dX4_rests_126 rfl ?_
          refine si_8_6 rfl 130 dX4_rests_128 rfl rfl ?_
          refine ic_8_5 rfl 133 dX4_rests_130 rfl ki_1 rfl ?_
          refine icn_8_7 rfl 136 dX4_rests_133 rfl rfl ?_
          refine v_goto 82 dX4_rests_136 rfl ?_
          have e := ih hlt
          simp only [restN, q100, h108, Bool.and_true, Bool.true_and, Bool.and_false, Bool.false_and, reduceIte, Bool.false_eq_true] at e
          exact e
        · refine v_bipush (v := 10) 113 dX4_rests_111 rfl kb_10 ?_
          refine li_8_7 115 dX4_rests_113 rfl ?_
          refine v_iconst (v := 2) 116 dX4_rests_115 rfl ki_2 ?_
          refine v_idiv 117 dX4_rests_116 rfl (by decide) ?_
          rw [half (by omega)]
          refine v_imul 118 dX4_rests_117 rfl ?_
          refine li_8_7 120 dX4_rests_118 rfl ?_
          refine v_iconst (v := 2) 121 dX4_rests_120 rfl ki_2 ?_
          refine v_irem 122 dX4_rests_121 rfl (by decide) ?_
          rw [rem2 (by omega)]
          refine v_iadd 123 dX4_rests_122 rfl ?_
          refine v_goto 128 dX4_rests_123 rfl ?_
          refine si_8_6 rfl 130 dX4_rests_128 rfl rfl ?_
          refine ic_8_5 rfl 133 dX4_rests_130 rfl ki_1 rfl ?_
          refine icn_8_7 rfl 136 dX4_rests_133 rfl rfl ?_
          refine v_goto 82 dX4_rests_136 rfl ?_
          have e := ih hlt
          simp only [restN, q100, h108, Bool.and_true, Bool.true_and, Bool.and_false, Bool.false_and, reduceIte, Bool.false_eq_true] at e
          rw [h108]
          exact e
      · refine v_if_eq 133 106 dX4_rests_103 rfl rfl (fun _ => ?_) (fun h => absurd rfl h)
        refine icn_8_7 rfl 136 dX4_rests_133 rfl rfl ?_
        refine v_goto 82 dX4_rests_136 rfl ?_
        have e := ih hlt
        simp only [restN, q100, Bool.and_true, Bool.true_and, Bool.and_false, Bool.false_and, reduceIte, Bool.false_eq_true] at e
        exact e
  refine la_8_0 1 dX4_rests_0 rfl ?_
  refine li_8_1 2 dX4_rests_1 rfl ?_
  refine v_cVI1 5 dX4_rests_2 rfl fvX4_isLetter fiX4_isLetter ml_X4_132 (seX4) rfl ⟨(Nat.le_of_ble_eq_true rfl), (Nat.le_of_ble_eq_true rfl)⟩ (Nat.le_of_ble_eq_true rfl) (Nat.le_of_ble_eq_true rfl) (c_X4_isLetter hS.1 hb0 (fun q2 => ⟨_, rfl, ?_⟩) (fun q2 => ⟨_, rfl, ?_⟩)) rfl
  · refine v_if_eq 24 8 dX4_rests_5 rfl rfl (fun h => absurd h (by decide)) (fun _ => ?_)
    refine la_8_0 9 dX4_rests_8 rfl ?_
    refine li_8_2 10 dX4_rests_9 rfl ?_
    refine v_cVI1 13 dX4_rests_10 rfl fvX4_isLetter fiX4_isLetter ml_X4_132 (seX4) rfl ⟨(Nat.le_of_ble_eq_true rfl), (Nat.le_of_ble_eq_true rfl)⟩ (Nat.le_of_ble_eq_true rfl) (Nat.le_of_ble_eq_true rfl) (c_X4_isLetter hS.1 hb0 (fun q10 => ⟨_, rfl, ?_⟩) (fun q10 => ⟨_, rfl, ?_⟩)) rfl
    · refine v_if_eq 24 16 dX4_rests_13 rfl rfl (fun h => absurd h (by decide)) (fun _ => ?_)
      refine la_8_0 17 dX4_rests_16 rfl ?_
      refine li_8_3 18 dX4_rests_17 rfl ?_
      refine v_cVI1 21 dX4_rests_18 rfl fvX4_isStamp fiX4_isStamp ml_X4_128 (seX4) rfl ⟨(Nat.le_of_ble_eq_true rfl), (Nat.le_of_ble_eq_true rfl)⟩ (Nat.le_of_ble_eq_true rfl) (Nat.le_of_ble_eq_true rfl) (c_X4_isStamp hS.1 hb0 (fun q18 => ⟨_, rfl, ?_⟩) (fun q18 => ⟨_, rfl, ?_⟩)) rfl
      · obtain ⟨m1, hm1, rfl⟩ := q2
        obtain ⟨m2, hm2, rfl⟩ := q10
        obtain ⟨k1, hk1, rfl⟩ := q18
        refine v_if_ne 26 24 dX4_rests_21 rfl rfl (fun _ => ?_) (fun h => absurd h (by decide))
        refine li_8_1 27 dX4_rests_26 rfl ?_
        refine li_8_2 28 dX4_rests_27 rfl ?_
        refine v_icmp_eq 42 31 dX4_rests_28 rfl rfl (fun h28 => ?_) (fun h28 => ?_)
        · refine v_bipush (v := (-2)) 44 dX4_rests_42 rfl kb_m2 ?_
          refine v_iret dX4_rests_44 rfl ?_
          rw [show restsF P (nI m1) (nI m2) (nI k1) x = -2 from by unfold restsF; rw [kk_nI (by omega), kk_nI (by omega), kk_nI (by omega)]; exact (ifP_neg (fun q => q ⟨⟨m1, hm1, rfl⟩, ⟨m2, hm2, rfl⟩, ⟨k1, hk1, rfl⟩⟩)).trans (ifP_pos (Or.inl h28))] at hQ
          exact hQ
        · refine li_8_4 33 dX4_rests_31 rfl ?_
          refine v_i2l 34 dX4_rests_33 rfl ?_
          refine v_lconst (v := 0) 35 dX4_rests_34 rfl rfl ?_
          refine v_lconst (v := 1) 36 dX4_rests_35 rfl rfl ?_
          refine v_cSI3 39 dX4_rests_36 rfl fvX4_in fsX4_in ml_X4_56 ⟨(Nat.le_of_ble_eq_true rfl), (Nat.le_of_ble_eq_true rfl)⟩ (Nat.le_of_ble_eq_true rfl) (Nat.le_of_ble_eq_true rfl) (c_X4_in (fun q36 => ⟨_, rfl, ?_⟩) (fun q36 => ⟨_, rfl, ?_⟩)) rfl
          · refine v_if_ne 45 42 dX4_rests_39 rfl rfl (fun _ => ?_) (fun h => absurd h (by decide))
            refine la_8_0 46 dX4_rests_45 rfl ?_
            refine vg_X4_16 rfl 49 dX4_rests_46 rfl ?_
            refine v_bipush (v := 24) 51 dX4_rests_49 rfl kb_24 ?_
            refine li_8_1 52 dX4_rests_51 rfl ?_
            refine v_iadd 53 dX4_rests_52 rfl ?_
            refine vmn_7 hS.1 hb0 _ 54 dX4_rests_53 rfl (ixC 24 m1) hm1 ?_
            refine v_if_ne 69 57 dX4_rests_54 rfl rfl (fun h54 => ?_) (fun h54 => ?_)
            · refine v_bipush (v := (-3)) 71 dX4_rests_69 rfl kb_m3 ?_
              refine v_iret dX4_rests_71 rfl ?_
              rw [show restsF P (nI m1) (nI m2) (nI k1) x = -3 from by unfold restsF; rw [kk_nI (by omega), kk_nI (by omega), kk_nI (by omega)]; exact (ifP_neg (fun q => q ⟨⟨m1, hm1, rfl⟩, ⟨m2, hm2, rfl⟩, ⟨k1, hk1, rfl⟩⟩)).trans ((ifP_neg (fun q => q.elim h28 (fun q => q (in1 q36)))).trans (ifP_pos (Or.inl h54)))] at hQ
              exact hQ
            · refine la_8_0 58 dX4_rests_57 rfl ?_
              refine vg_X4_16 rfl 61 dX4_rests_58 rfl ?_
              refine v_bipush (v := 24) 63 dX4_rests_61 rfl kb_24 ?_
              refine li_8_2 64 dX4_rests_63 rfl ?_
              refine v_iadd 65 dX4_rests_64 rfl ?_
              refine vmn_7 hS.1 hb0 _ 66 dX4_rests_65 rfl (ixC 24 m2) hm2 ?_
              refine v_if_eq 72 69 dX4_rests_66 rfl rfl (fun h66 => ?_) (fun h66 => ?_)
              · refine v_iconst (v := 0) 73 dX4_rests_72 rfl ki_0 ?_
                refine si_8_5 rfl 75 dX4_rests_73 rfl rfl ?_
                refine v_bipush (v := (-9)) 77 dX4_rests_75 rfl kb_m9 ?_
                refine si_8_6 rfl 79 dX4_rests_77 rfl rfl ?_
                refine v_iconst (v := 0) 80 dX4_rests_79 rfl ki_0 ?_
                refine si_8_7 rfl 82 dX4_rests_80 rfl rfl ?_
                refine key m1 m2 k1 hm1 hm2 hk1 ?_ 0 (Nat.zero_le _)
                rw [show restsF P (nI m1) (nI m2) (nI k1) x = (if x = 0 then (restN (aloneF P m1 k1) (aloneF P m2 k1) 4).1 else (restN (aloneF P m1 k1) (aloneF P m2 k1) 4).2) from by unfold restsF; rw [kk_nI (by omega), kk_nI (by omega), kk_nI (by omega)]; exact (ifP_neg (fun q => q ⟨⟨m1, hm1, rfl⟩, ⟨m2, hm2, rfl⟩, ⟨k1, hk1, rfl⟩⟩)).trans ((ifP_neg (fun q => q.elim h28 (fun q => q (in1 q36)))).trans (ifP_neg (fun q => q.elim (fun q => q h54) (fun q => q h66))))] at hQ
                exact hQ
              · refine v_bipush (v := (-3)) 71 dX4_rests_69 rfl kb_m3 ?_
                refine v_iret dX4_rests_71 rfl ?_
                rw [show restsF P (nI m1) (nI m2) (nI k1) x = -3 from by unfold restsF; rw [kk_nI (by omega), kk_nI (by omega), kk_nI (by omega)]; exact (ifP_neg (fun q => q ⟨⟨m1, hm1, rfl⟩, ⟨m2, hm2, rfl⟩, ⟨k1, hk1, rfl⟩⟩)).trans ((ifP_neg (fun q => q.elim h28 (fun q => q (in1 q36)))).trans (ifP_pos (Or.inr h66)))] at hQ
                exact hQ
          · refine v_if_ne 45 42 dX4_rests_39 rfl rfl (fun h => absurd rfl h) (fun _ => ?_)
            refine v_bipush (v := (-2)) 44 dX4_rests_42 rfl kb_m2 ?_
            refine v_iret dX4_rests_44 rfl ?_
            rw [show restsF P (nI m1) (nI m2) (nI k1) x = -2 from by unfold restsF; rw [kk_nI (by omega), kk_nI (by omega), kk_nI (by omega)]; exact (ifP_neg (fun q => q ⟨⟨m1, hm1, rfl⟩, ⟨m2, hm2, rfl⟩, ⟨k1, hk1, rfl⟩⟩)).trans (ifP_pos (Or.inr (out1 q36)))] at hQ
            exact hQ
      · refine v_if_ne 26 24 dX4_rests_21 rfl rfl (fun h => absurd rfl h) (fun _ => ?_)
        refine v_iconst (v := (-1)) 25 dX4_rests_24 rfl ki_m1 ?_
        refine v_iret dX4_rests_25 rfl ?_
        rw [show restsF P i j s x = -1 from ifP_pos (fun q => q18 q.2.2)] at hQ
        exact hQ
    · refine v_if_eq 24 16 dX4_rests_13 rfl rfl (fun _ => ?_) (fun h => absurd rfl h)
      refine v_iconst (v := (-1)) 25 dX4_rests_24 rfl ki_m1 ?_
      refine v_iret dX4_rests_25 rfl ?_
      rw [show restsF P i j s x = -1 from ifP_pos (fun q => q10 q.2.1)] at hQ
      exact hQ
  · refine v_if_eq 24 8 dX4_rests_5 rfl rfl (fun _ => ?_) (fun h => absurd rfl h)
    refine v_iconst (v := (-1)) 25 dX4_rests_24 rfl ki_m1 ?_
    refine v_iret dX4_rests_25 rfl ?_
    rw [show restsF P i j s x = -1 from ifP_pos (fun q => q2 q.1)] at hQ
    exact hQ

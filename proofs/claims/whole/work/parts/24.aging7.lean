theorem wb_tb (n : Nat) : (lN n).toBitVec = BitVec.ofNat 64 n := rfl
theorem wb_inj {a b : Int64} (h : a.toBitVec = b.toBitVec) : a = b := Int64.toBitVec_inj.mp h
theorem wb_tn {n : Nat} (h : n < 2 ^ 64) : (lN n).toBitVec.toNat = n := by rw [wb_tb, BitVec.toNat_ofNat, Nat.mod_eq_of_lt h]
theorem wb_of (x : Int64) : ∃ n, n < 2 ^ 64 ∧ x = lN n := ⟨x.toBitVec.toNat, x.toBitVec.isLt, wb_inj (by rw [wb_tb]; simp)⟩
theorem wb_of32 (x : Int32) : ∃ n, n < 2 ^ 32 ∧ x = nI n := ⟨x.toBitVec.toNat, x.toBitVec.isLt, Int32.toBitVec_inj.mp (by show _ = BitVec.ofNat 32 _; simp)⟩
theorem wb_c : ∀ k, k < 64 → ((nI k).toInt64 &&& 63) = lN k := by decide +kernel
theorem wb_cu : ∀ k, k < 64 → ((nI k).toInt64.toUInt64 &&& Int64.toUInt64 63) = UInt64.ofNat k := by decide +kernel
theorem wb_sm : ∀ k, k < 64 → (BitVec.ofNat 64 k).smod 64 = BitVec.ofNat 64 k := by decide +kernel
theorem wb_pw {a b : Nat} (h : a ≤ b) : 2 ^ b = 2 ^ a * 2 ^ (b - a) := by rw [← Nat.pow_add]; congr 1; omega
theorem wb_lt2 {a b : Nat} (h : a < b) : 2 ^ a < 2 ^ b := Nat.pow_lt_pow_right (by decide) h
theorem wb_mod (n : Nat) : lN n = lN (n % 2 ^ 64) := wb_inj (by rw [wb_tb, wb_tb]; apply BitVec.eq_of_toNat_eq; rw [BitVec.toNat_ofNat, BitVec.toNat_ofNat, Nat.mod_mod])
theorem wb_shr {n k : Nat} (hn : n < 2 ^ 64) (hk : k < 64) : ((lN n).toUInt64 >>> ((nI k).toInt64.toUInt64 &&& Int64.toUInt64 63)).toInt64 = lN (n / 2 ^ k) := by
  rw [wb_cu k hk]
  apply wb_inj
  apply BitVec.eq_of_toNat_eq
  show ((lN n).toUInt64 >>> UInt64.ofNat k).toNat = (BitVec.ofNat 64 _).toNat
  have h1 : (UInt64.ofNat k).toNat = k := by
    show (BitVec.ofNat 64 k).toNat = k
    rw [BitVec.toNat_ofNat, Nat.mod_eq_of_lt (by omega)]
  have h2 : (lN n).toUInt64.toNat = n := wb_tn hn
  rw [UInt64.toNat_shiftRight, h1, h2, Nat.mod_eq_of_lt hk, Nat.shiftRight_eq_div_pow, BitVec.toNat_ofNat, Nat.mod_eq_of_lt (Nat.lt_of_le_of_lt (Nat.div_le_self _ _) hn)]
theorem fa_and (a b : Nat) : nI a &&& nI b = nI (a &&& b) := by
  apply Int32.toBitVec_inj.1
  show BitVec.ofNat 32 a &&& BitVec.ofNat 32 b = BitVec.ofNat 32 (a &&& b)
  apply BitVec.eq_of_getLsbD_eq
  intro i hi
  simp [hi]
theorem fa_or (a b : Nat) : nI a ||| nI b = nI (a ||| b) := by
  apply Int32.toBitVec_inj.1
  show BitVec.ofNat 32 a ||| BitVec.ofNat 32 b = BitVec.ofNat 32 (a ||| b)
  apply BitVec.eq_of_getLsbD_eq
  intro i hi
  simp [hi]
/-- i of q weeks gone by, d: damp now -/
def wkI (R : PT) (d : Int32) (q : Nat) : Nat → PT
  | 0 => R
  | i + 1 => passP (dampP (wkI R d q i) (if ¬ d = 0 ∨ (i + 1 = q ∧ q % 2 = 1) then 1 else 0))
theorem wkI_1 (R : PT) (d : Int32) (q : Nat) : ∀ i, (wkI R d q i).1.1 = R.1.1 ∧ (wkI R d q i).1.2.1 = R.1.2.1
  | 0 => ⟨rfl, rfl⟩
  | i + 1 => wkI_1 R d q i
theorem rem2 {q : Nat} (h : q < 1000) : nI q - nI q / 2 * 2 = nI (q % 2) := pk_rem (a := q) (d := 2) (by omega) (by omega) (by omega)
set_option maxHeartbeats 4000000 in
set_option maxRecDepth 100000 in
theorem c_X3_tryWeeks {w : Wd} {P R : PT} (hN : isC w 0 P) (hC : isC w 1 R) {q : Nat} (hq : q < 1000) {Q : Option Value → Wd → Prop} (hQ : ∀ u, isC u 1 (wkI R P.1.2.2.2 q q) → Fr 1 w u → Q none u) : V mX3_tryWeeks 0 [some (.ref 0), some (.int (nI q)), none, none] [] w Q := by
  have key : ∀ i, i ≤ q → ∀ u, isC u 1 (wkI R P.1.2.2.2 q i) → Fr 1 w u → V mX3_tryWeeks 2 [some (.ref 0), some (.int (nI q)), some (.int (nI (i + 1))), none] [] u Q := by
    refine up (P := fun i => ∀ u, isC u 1 (wkI R P.1.2.2.2 q i) → Fr 1 w u → V mX3_tryWeeks 2 [some (.ref 0), some (.int (nI q)), some (.int (nI (i + 1))), none] [] u Q) (fun i hi ih => ?_)
    intro u hC hF
    have hN1 := hN.fr (by decide) hF
    refine li_4_2 3 dX3_tryWeeks_2 rfl ?_
    refine li_4_1 4 dX3_tryWeeks_3 rfl ?_
    refine v_icmp_gt 64 7 dX3_tryWeeks_4 rfl rfl (fun h4 => ?_) (fun h4 => ?_)
    · have hiq : i = q := by rw [i_lt, nI_toInt (by omega), nI_toInt (by omega)] at h4; omega
      subst hiq
      refine v_vret dX3_tryWeeks_64 rfl ?_
      exact hQ _ hC hF
    · have hlt : i < q := by rw [i_lt, nI_toInt (by omega), nI_toInt (by omega)] at h4; omega
      refine li_4_2 8 dX3_tryWeeks_7 rfl ?_
      refine li_4_1 9 dX3_tryWeeks_8 rfl ?_
      refine v_icmp_ne 23 12 dX3_tryWeeks_9 rfl rfl (fun h9 => ?_) (fun h9 => ?_)
      · have g9 : ¬ i + 1 = q := fun z => h9 (by rw [z])
        refine v_iconst (v := 0) 24 dX3_tryWeeks_23 rfl ki_0 ?_
        refine si_4_3 rfl 25 dX3_tryWeeks_24 rfl rfl ?_
        refine la_4_0 26 dX3_tryWeeks_25 rfl ?_
        refine vg_X3_27 rfl 29 dX3_tryWeeks_26 rfl ?_
        refine la_4_0 30 dX3_tryWeeks_29 rfl ?_
        refine vg_X3_23 rfl 33 dX3_tryWeeks_30 rfl ?_
        refine vgq_X3_161 hb0 hN1 rfl 36 dX3_tryWeeks_33 rfl ?_
        refine v_if_ne 43 39 dX3_tryWeeks_36 rfl rfl (fun h36 => ?_) (fun h36 => ?_)
        · refine v_iconst (v := 1) 44 dX3_tryWeeks_43 rfl ki_1 ?_
          refine v_goto 48 dX3_tryWeeks_44 rfl ?_
          refine vs_X3_161 hb1 rfl 51 dX3_tryWeeks_48 rfl (Or.inr rfl) ?_
          refine la_4_0 52 dX3_tryWeeks_51 rfl ?_
          refine vg_X3_27 rfl 55 dX3_tryWeeks_52 rfl ?_
          refine v_cVN0 58 dX3_tryWeeks_55 rfl fvX1_passWeek fiX1_passWeek ml_X3_129 (seX1 hb1) rfl ⟨(Nat.le_of_ble_eq_true rfl), (Nat.le_of_ble_eq_true rfl)⟩ (Nat.le_of_ble_eq_true rfl) (Nat.le_of_ble_eq_true rfl) (c_X1_passWeek hb1 (hC).damp (fun u1 hC1 hF1 => ⟨rfl, ?_⟩)) rfl
          refine icn_4_2 rfl 61 dX3_tryWeeks_58 rfl rfl ?_
          refine v_goto 2 dX3_tryWeeks_61 rfl ?_
          refine fg_4_3 ?_
          first
            | exact ih hlt _ (by rw [wkI, if_pos (Or.inl h36)]; exact hC1) (hF.tr ((Fr.oI (by decide)).tr hF1))
            | exact ih hlt _ (by rw [wkI, if_pos (Or.inr ⟨g9, g16⟩)]; exact hC1) (hF.tr ((Fr.oI (by decide)).tr hF1))
            | exact ih hlt _ (by rw [wkI, if_neg (by rintro (z | ⟨z1, z2⟩) <;> first | exact absurd h36 z | exact absurd z1 g9 | exact absurd z2 g16)]; exact hC1) (hF.tr ((Fr.oI (by decide)).tr hF1))
            | skip
            | skip
        · refine li_4_3 40 dX3_tryWeeks_39 rfl ?_
          refine v_if_eq 47 43 dX3_tryWeeks_40 rfl rfl (fun _ => ?_) (fun h => absurd rfl h)
          refine v_iconst (v := 0) 48 dX3_tryWeeks_47 rfl ki_0 ?_
          refine vs_X3_161 hb1 rfl 51 dX3_tryWeeks_48 rfl (Or.inl rfl) ?_
          refine la_4_0 52 dX3_tryWeeks_51 rfl ?_
          refine vg_X3_27 rfl 55 dX3_tryWeeks_52 rfl ?_
          refine v_cVN0 58 dX3_tryWeeks_55 rfl fvX1_passWeek fiX1_passWeek ml_X3_129 (seX1 hb1) rfl ⟨(Nat.le_of_ble_eq_true rfl), (Nat.le_of_ble_eq_true rfl)⟩ (Nat.le_of_ble_eq_true rfl) (Nat.le_of_ble_eq_true rfl) (c_X1_passWeek hb1 (hC).damp (fun u1 hC1 hF1 => ⟨rfl, ?_⟩)) rfl
          refine icn_4_2 rfl 61 dX3_tryWeeks_58 rfl rfl ?_
          refine v_goto 2 dX3_tryWeeks_61 rfl ?_
          refine fg_4_3 ?_
          first
            | exact ih hlt _ (by rw [wkI, if_pos (Or.inl h36)]; exact hC1) (hF.tr ((Fr.oI (by decide)).tr hF1))
            | exact ih hlt _ (by rw [wkI, if_pos (Or.inr ⟨g9, g16⟩)]; exact hC1) (hF.tr ((Fr.oI (by decide)).tr hF1))
            | exact ih hlt _ (by rw [wkI, if_neg (by rintro (z | ⟨z1, z2⟩) <;> first | exact absurd h36 z | exact absurd z1 g9 | exact absurd z2 g16)]; exact hC1) (hF.tr ((Fr.oI (by decide)).tr hF1))
            | skip
            | skip
      · have g9 : i + 1 = q := nI_inj (by omega) (by omega) h9
        refine li_4_1 13 dX3_tryWeeks_12 rfl ?_
        refine v_iconst (v := 2) 14 dX3_tryWeeks_13 rfl ki_2 ?_
        refine v_irem 15 dX3_tryWeeks_14 rfl (by decide) ?_
        rw [rem2 hq]
        refine v_iconst (v := 1) 16 dX3_tryWeeks_15 rfl ki_1 ?_
        refine v_icmp_ne 23 19 dX3_tryWeeks_16 rfl rfl (fun h16 => ?_) (fun h16 => ?_)
        · have g16 : ¬ q % 2 = 1 := fun z => h16 (by rw [z]; rfl)
          refine v_iconst (v := 0) 24 dX3_tryWeeks_23 rfl ki_0 ?_
          refine si_4_3 rfl 25 dX3_tryWeeks_24 rfl rfl ?_
          refine la_4_0 26 dX3_tryWeeks_25 rfl ?_
          refine vg_X3_27 rfl 29 dX3_tryWeeks_26 rfl ?_
          refine la_4_0 30 dX3_tryWeeks_29 rfl ?_
          refine vg_X3_23 rfl 33 dX3_tryWeeks_30 rfl ?_
          refine vgq_X3_161 hb0 hN1 rfl 36 dX3_tryWeeks_33 rfl ?_
          refine v_if_ne 43 39 dX3_tryWeeks_36 rfl rfl (fun h36 => ?_) (fun h36 => ?_)
          · refine v_iconst (v := 1) 44 dX3_tryWeeks_43 rfl ki_1 ?_
            refine v_goto 48 dX3_tryWeeks_44 rfl ?_
            refine vs_X3_161 hb1 rfl 51 dX3_tryWeeks_48 rfl (Or.inr rfl) ?_
            refine la_4_0 52 dX3_tryWeeks_51 rfl ?_
            refine vg_X3_27 rfl 55 dX3_tryWeeks_52 rfl ?_
            refine v_cVN0 58 dX3_tryWeeks_55 rfl fvX1_passWeek fiX1_passWeek ml_X3_129 (seX1 hb1) rfl ⟨(Nat.le_of_ble_eq_true rfl), (Nat.le_of_ble_eq_true rfl)⟩ (Nat.le_of_ble_eq_true rfl) (Nat.le_of_ble_eq_true rfl) (c_X1_passWeek hb1 (hC).damp (fun u1 hC1 hF1 => ⟨rfl, ?_⟩)) rfl
            refine icn_4_2 rfl 61 dX3_tryWeeks_58 rfl rfl ?_
            refine v_goto 2 dX3_tryWeeks_61 rfl ?_
            refine fg_4_3 ?_
            first
              | exact ih hlt _ (by rw [wkI, if_pos (Or.inl h36)]; exact hC1) (hF.tr ((Fr.oI (by decide)).tr hF1))
              | exact ih hlt _ (by rw [wkI, if_pos (Or.inr ⟨g9, g16⟩)]; exact hC1) (hF.tr ((Fr.oI (by decide)).tr hF1))
              | exact ih hlt _ (by rw [wkI, if_neg (by rintro (z | ⟨z1, z2⟩) <;> first | exact absurd h36 z | exact absurd z1 g9 | exact absurd z2 g16)]; exact hC1) (hF.tr ((Fr.oI (by decide)).tr hF1))
              | skip
              | skip
          · refine li_4_3 40 dX3_tryWeeks_39 rfl ?_
            refine v_if_eq 47 43 dX3_tryWeeks_40 rfl rfl (fun _ => ?_) (fun h => absurd rfl h)
            refine v_iconst (v := 0) 48 dX3_tryWeeks_47 rfl ki_0 ?_
            refine vs_X3_161 hb1 rfl 51 dX3_tryWeeks_48 rfl (Or.inl rfl) ?_
            refine la_4_0 52 dX3_tryWeeks_51 rfl ?_
            refine vg_X3_27 rfl 55 dX3_tryWeeks_52 rfl ?_
            refine v_cVN0 58 dX3_tryWeeks_55 rfl fvX1_passWeek fiX1_passWeek ml_X3_129 (seX1 hb1) rfl ⟨(Nat.le_of_ble_eq_true rfl), (Nat.le_of_ble_eq_true rfl)⟩ (Nat.le_of_ble_eq_true rfl) (Nat.le_of_ble_eq_true rfl) (c_X1_passWeek hb1 (hC).damp (fun u1 hC1 hF1 => ⟨rfl, ?_⟩)) rfl
            refine icn_4_2 rfl 61 dX3_tryWeeks_58 rfl rfl ?_
            refine v_goto 2 dX3_tryWeeks_61 rfl ?_
            refine fg_4_3 ?_
            first
              | exact ih hlt _ (by rw [wkI, if_pos (Or.inl h36)]; exact hC1) (hF.tr ((Fr.oI (by decide)).tr hF1))
              | exact ih hlt _ (by rw [wkI, if_pos (Or.inr ⟨g9, g16⟩)]; exact hC1) (hF.tr ((Fr.oI (by decide)).tr hF1))
              | exact ih hlt _ (by rw [wkI, if_neg (by rintro (z | ⟨z1, z2⟩) <;> first | exact absurd h36 z | exact absurd z1 g9 | exact absurd z2 g16)]; exact hC1) (hF.tr ((Fr.oI (by decide)).tr hF1))
              | skip
              | skip
        · have g16 : q % 2 = 1 := nI_inj (b := 1) (by omega) (by omega) h16
          refine v_iconst (v := 1) 20 dX3_tryWeeks_19 rfl ki_1 ?_
          refine v_goto 24 dX3_tryWeeks_20 rfl ?_
          refine si_4_3 rfl 25 dX3_tryWeeks_24 rfl rfl ?_
          refine la_4_0 26 dX3_tryWeeks_25 rfl ?_
          refine vg_X3_27 rfl 29 dX3_tryWeeks_26 rfl ?_
          refine la_4_0 30 dX3_tryWeeks_29 rfl ?_
          refine vg_X3_23 rfl 33 dX3_tryWeeks_30 rfl ?_
          refine vgq_X3_161 hb0 hN1 rfl 36 dX3_tryWeeks_33 rfl ?_
          refine v_if_ne 43 39 dX3_tryWeeks_36 rfl rfl (fun h36 => ?_) (fun h36 => ?_)
          · refine v_iconst (v := 1) 44 dX3_tryWeeks_43 rfl ki_1 ?_
            refine v_goto 48 dX3_tryWeeks_44 rfl ?_
            refine vs_X3_161 hb1 rfl 51 dX3_tryWeeks_48 rfl (Or.inr rfl) ?_
            refine la_4_0 52 dX3_tryWeeks_51 rfl ?_
            refine vg_X3_27 rfl 55 dX3_tryWeeks_52 rfl ?_
            refine v_cVN0 58 dX3_tryWeeks_55 rfl fvX1_passWeek fiX1_passWeek ml_X3_129 (seX1 hb1) rfl ⟨(Nat.le_of_ble_eq_true rfl), (Nat.le_of_ble_eq_true rfl)⟩ (Nat.le_of_ble_eq_true rfl) (Nat.le_of_ble_eq_true rfl) (c_X1_passWeek hb1 (hC).damp (fun u1 hC1 hF1 => ⟨rfl, ?_⟩)) rfl
            refine icn_4_2 rfl 61 dX3_tryWeeks_58 rfl rfl ?_
            refine v_goto 2 dX3_tryWeeks_61 rfl ?_
            refine fg_4_3 ?_
            first
              | exact ih hlt _ (by rw [wkI, if_pos (Or.inl h36)]; exact hC1) (hF.tr ((Fr.oI (by decide)).tr hF1))
              | exact ih hlt _ (by rw [wkI, if_pos (Or.inr ⟨g9, g16⟩)]; exact hC1) (hF.tr ((Fr.oI (by decide)).tr hF1))
              | exact ih hlt _ (by rw [wkI, if_neg (by rintro (z | ⟨z1, z2⟩) <;> first | exact absurd h36 z | exact absurd z1 g9 | exact absurd z2 g16)]; exact hC1) (hF.tr ((Fr.oI (by decide)).tr hF1))
              | skip
              | skip
          · refine li_4_3 40 dX3_tryWeeks_39 rfl ?_
            refine v_if_eq 47 43 dX3_tryWeeks_40 rfl rfl (fun h => absurd h (by decide)) (fun _ => ?_)
            refine v_iconst (v := 1) 44 dX3_tryWeeks_43 rfl ki_1 ?_
            refine v_goto 48 dX3_tryWeeks_44 rfl ?_
            refine vs_X3_161 hb1 rfl 51 dX3_tryWeeks_48 rfl (Or.inr rfl) ?_
            refine la_4_0 52 dX3_tryWeeks_51 rfl ?_
            refine vg_X3_27 rfl 55 dX3_tryWeeks_52 rfl ?_
            refine v_cVN0 58 dX3_tryWeeks_55 rfl fvX1_passWeek fiX1_passWeek ml_X3_129 (seX1 hb1) rfl ⟨(Nat.le_of_ble_eq_true rfl), (Nat.le_of_ble_eq_true rfl)⟩ (Nat.le_of_ble_eq_true rfl) (Nat.le_of_ble_eq_true rfl) (c_X1_passWeek hb1 (hC).damp (fun u1 hC1 hF1 => ⟨rfl, ?_⟩)) rfl
            refine icn_4_2 rfl 61 dX3_tryWeeks_58 rfl rfl ?_
            refine v_goto 2 dX3_tryWeeks_61 rfl ?_
            refine fg_4_3 ?_
            first
              | exact ih hlt _ (by rw [wkI, if_pos (Or.inl h36)]; exact hC1) (hF.tr ((Fr.oI (by decide)).tr hF1))
              | exact ih hlt _ (by rw [wkI, if_pos (Or.inr ⟨g9, g16⟩)]; exact hC1) (hF.tr ((Fr.oI (by decide)).tr hF1))
              | exact ih hlt _ (by rw [wkI, if_neg (by rintro (z | ⟨z1, z2⟩) <;> first | exact absurd h36 z | exact absurd z1 g9 | exact absurd z2 g16)]; exact hC1) (hF.tr ((Fr.oI (by decide)).tr hF1))
              | skip
              | skip
  refine v_iconst (v := 1) 1 dX3_tryWeeks_0 rfl ki_1 ?_
  refine si_4_2 rfl 2 dX3_tryWeeks_1 rfl rfl ?_
  exact key 0 (Nat.zero_le _) _ hC Fr.rf
def nxt (z : Int64) : Int64 := z * 6364136223846793005 + 1442695040888963407
def yq (z : Int64) : Int32 := ((z.toUInt64 >>> ((33 : Int32).toInt64.toUInt64 &&& Int64.toUInt64 63)).toInt64 - (z.toUInt64 >>> ((33 : Int32).toInt64.toUInt64 &&& Int64.toUInt64 63)).toInt64 / 10 * 10).toInt32
theorem yq_lt (z : Int64) : ∃ q, q < 10 ∧ yq z = nI q := by
  obtain ⟨n, hn, rfl⟩ := wb_of z
  have e := wb_shr (k := 33) hn (by decide)
  unfold yq
  rw [show ((lN n).toUInt64 >>> ((33 : Int32).toInt64.toUInt64 &&& Int64.toUInt64 63)).toInt64 = lN (n / 2 ^ 33) from e]
  refine ⟨n / 2 ^ 33 % 10, Nat.mod_lt _ (by decide), ?_⟩
  rw [show lN (n / 2 ^ 33) - lN (n / 2 ^ 33) / 10 * 10 = lN (n / 2 ^ 33 % 10) from pk_lRem (b := 10) (by omega) (by decide) (by decide), lN_i]
/-- i times: the post, the seed, how many were alive -/
def yrS (P : PT) (z : Int64) : Nat → PT × Int64 × Int32
  | 0 => (P, z, 0)
  | i + 1 => (wkI (yrS P z i).1 P.1.2.2.2 (kk (yq (nxt (yrS P z i).2.1))) (kk (yq (nxt (yrS P z i).2.1))), nxt (yrS P z i).2.1, (yrS P z i).2.2 + bcF (aliveP (wkI (yrS P z i).1 P.1.2.2.2 (kk (yq (nxt (yrS P z i).2.1))) (kk (yq (nxt (yrS P z i).2.1))))))
noncomputable def yearsF (P : PT) (z : Int64) (m : Int32) : Int32 × Int64 := ifP (m < 1 ∨ ¬ m ≤ 30) (-2, z) ((yrS P z (kk m)).2.2, (yrS P z (kk m)).2.1)
theorem cS.sd {w : Wd} {P : PT} {T : TT} {A : AT} {U : Nat → Bool} {K : Nat → PT} {N : NT} {z y : Int64} (h : cS w P T A U K N z) : cS (sJ w 0 y) P T A U K N y := ⟨h.1, h.2.1, h.2.2.1, h.2.2.2.1, h.2.2.2.2.1, h.2.2.2.2.2.1, rfl⟩
theorem m30 {m : Int32} (h1 : ¬ m < 1) (h2 : m ≤ 30) : ∃ k, k ≤ 30 ∧ m = nI k := by
  rw [i_lt] at h1
  rw [i_le] at h2
  have e1 : (1 : Int32).toInt = 1 := by decide
  have e2 : (30 : Int32).toInt = 30 := by decide
  obtain ⟨k, hk, e⟩ := nI_of (x := m) (by rw [i_lt]; have : (0 : Int32).toInt = 0 := by decide
                                          omega)
  refine ⟨k, ?_, e⟩
  rw [e, nI_toInt hk] at h2
  omega
set_option maxHeartbeats 4000000 in
set_option maxRecDepth 100000 in
theorem c_X3_years {w : Wd} {P : PT} {T : TT} {A : AT} {U : Nat → Bool} {K : Nat → PT} {N : NT} {z : Int64} (hS : cS w P T A U K N z) (hz : P.1.2.2.2 = 0 ∨ P.1.2.2.2 = 1) {m : Int32} {Q : Option Value → Wd → Prop} (hQ : ∀ u, cS u P T A U K N (yearsF P z m).2 → FrC w u → Q (some (.int (yearsF P z m).1)) u) : V mX3_years 0 [some (.ref 0), some (.int m), none, none] [] w Q := by
  have b5 := hS.1.2.2.2.2.1
  have b4 := hS.1.2.2.2.2.2.1
  have key : ∀ k, k ≤ 30 → (∀ u, cS u P T A U K N (yrS P z k).2.1 → FrC w u → Q (some (.int (yrS P z k).2.2)) u) → ∀ i, i ≤ k → ∀ u, cS u P T A U K N (yrS P z i).2.1 → isC u 1 (yrS P z i).1 → FrC w u → V mX3_years 29 [some (.ref 0), some (.int (nI k)), some (.int (yrS P z i).2.2), some (.int (nI i))] [] u Q := by
    intro k hk hQ
    refine up (P := fun i => ∀ u, cS u P T A U K N (yrS P z i).2.1 → isC u 1 (yrS P z i).1 → FrC w u → V mX3_years 29 [some (.ref 0), some (.int (nI k)), some (.int (yrS P z i).2.2), some (.int (nI i))] [] u Q) (fun i hi ih => ?_)
    intro u hSu hC hG
    refine li_4_3 30 dX3_years_29 rfl ?_
    refine li_4_1 31 dX3_years_30 rfl ?_
    refine v_icmp_ge 85 34 dX3_years_31 rfl rfl (fun h31 => ?_) (fun h31 => ?_)
    · obtain rfl := ge_eq h31 hi (by omega)
      refine li_4_2 86 dX3_years_85 rfl ?_
      refine v_iret dX3_years_86 rfl ?_
      exact hQ _ hSu hG
    · have hlt := ge_lt h31 (by omega) (by omega)
      refine la_4_0 35 dX3_years_34 rfl ?_
      refine la_4_0 36 dX3_years_35 rfl ?_
      refine vg_X3_218 rfl 39 dX3_years_36 rfl ?_
      rw [hSu.2.2.2.2.2.2]
      refine v_ldc2 42 dX3_years_39 rfl kl_X3_222 ?_
      refine v_lmul 43 dX3_years_42 rfl ?_
      refine v_ldc2 46 dX3_years_43 rfl kl_X3_224 ?_
      refine v_ladd 47 dX3_years_46 rfl ?_
      refine vs_X3_218 rfl 50 dX3_years_47 rfl ?_
      have hS2 := hSu.sd (y := nxt (yrS P z i).2.1)
      obtain ⟨q, hq, eq⟩ := yq_lt (nxt (yrS P z i).2.1)
      change V mX3_years 50 _ [] (sJ u 0 (nxt (yrS P z i).2.1)) Q
      have hC2 : isC (sJ u 0 (nxt (yrS P z i).2.1)) 1 (yrS P z i).1 := hC
      refine la_4_0 51 dX3_years_50 rfl ?_
      refine la_4_0 52 dX3_years_51 rfl ?_
      refine vg_X3_218 rfl 55 dX3_years_52 rfl ?_
      refine v_bipush (v := 33) 57 dX3_years_55 rfl kb_33 ?_
      refine v_lushr 58 dX3_years_57 rfl ?_
      refine v_ldc2 61 dX3_years_58 rfl kl_X3_226 ?_
      refine v_lrem 62 dX3_years_61 rfl (by decide) ?_
      refine v_l2i 63 dX3_years_62 rfl ?_
      change V mX3_years 63 _ [.int (yq (nxt (yrS P z i).2.1)), _] _ Q
      rw [eq]
      refine v_cVN1 66 dX3_years_63 rfl fvX3_tryWeeks fiX3_tryWeeks ml_X3_228 (seX3) rfl ⟨(Nat.le_of_ble_eq_true rfl), (Nat.le_of_ble_eq_true rfl)⟩ (Nat.le_of_ble_eq_true rfl) (Nat.le_of_ble_eq_true rfl) (c_X3_tryWeeks hS2.1 hC2 (by omega) (fun u1 hC1 hF1 => ⟨rfl, ?_⟩)) rfl
      refine li_4_2 67 dX3_years_66 rfl ?_
      refine la_4_0 68 dX3_years_67 rfl ?_
      refine vg_X3_27 rfl 71 dX3_years_68 rfl ?_
      refine v_cVI0 74 dX3_years_71 rfl fvX1_aliveBits fiX1_aliveBits ml_X3_132 (seX1 hb1) rfl ⟨(Nat.le_of_ble_eq_true rfl), (Nat.le_of_ble_eq_true rfl)⟩ (Nat.le_of_ble_eq_true rfl) (Nat.le_of_ble_eq_true rfl) (c_X1_aliveBits hb1 hC1 ⟨_, rfl, ?_⟩) rfl
      refine v_cSI1 77 dX3_years_74 rfl fvJ6_bitCount_0f7a4 fsJ6_bitCount_0f7a4 ml_X3_136 ⟨(Nat.le_of_ble_eq_true rfl), (Nat.le_of_ble_eq_true rfl)⟩ (Nat.le_of_ble_eq_true rfl) (Nat.le_of_ble_eq_true rfl) (c_bitCount ⟨_, rfl, ?_⟩) rfl
      refine v_iadd 78 dX3_years_77 rfl ?_
      refine si_4_2 rfl 79 dX3_years_78 rfl rfl ?_
      refine icn_4_3 rfl 82 dX3_years_79 rfl rfl ?_
      refine v_goto 29 dX3_years_82 rfl ?_
      have e : kk (yq (nxt (yrS P z i).2.1)) = q := by rw [eq]; exact kk_nI (by omega)
      have g := ih hlt u1 (by show cS u1 P T A U K N (nxt (yrS P z i).2.1); exact hS2.fr1 hF1) (by show isC u1 1 (wkI _ _ _ _); rw [e]; exact hC1) ((hG.tr FrC.oJ).tr (hF1.C hb1))
      simp only [yrS, e] at g
      exact g
  refine li_4_1 1 dX3_years_0 rfl ?_
  refine v_iconst (v := 1) 2 dX3_years_1 rfl ki_1 ?_
  refine v_icmp_lt 11 5 dX3_years_2 rfl rfl (fun h2 => ?_) (fun h2 => ?_)
  · refine v_bipush (v := (-2)) 13 dX3_years_11 rfl kb_m2 ?_
    refine v_iret dX3_years_13 rfl ?_
    rw [show yearsF P z m = (-2, z) from ifP_pos (Or.inl h2)] at hQ
    exact hQ _ hS FrC.rf
  · refine li_4_1 6 dX3_years_5 rfl ?_
    refine v_bipush (v := 30) 8 dX3_years_6 rfl kb_30 ?_
    refine v_icmp_le 14 11 dX3_years_8 rfl rfl (fun h8 => ?_) (fun h8 => ?_)
    · obtain ⟨k, hk, rfl⟩ := m30 h2 h8
      refine la_4_0 15 dX3_years_14 rfl ?_
      refine vg_X3_27 rfl 18 dX3_years_15 rfl ?_
      refine la_4_0 19 dX3_years_18 rfl ?_
      refine vg_X3_23 rfl 22 dX3_years_19 rfl ?_
      refine v_cVN1 25 dX3_years_22 rfl fvX1_copyFrom fiX1_copyFrom ml_X3_66 (seX1 hb1) rfl ⟨(Nat.le_of_ble_eq_true rfl), (Nat.le_of_ble_eq_true rfl)⟩ (Nat.le_of_ble_eq_true rfl) (Nat.le_of_ble_eq_true rfl) (c_X1_copyFrom hb1 hb0 (by decide) hS.1 hz (fun u1 hC1 hF1 => ⟨rfl, ?_⟩)) rfl
      refine v_iconst (v := 0) 26 dX3_years_25 rfl ki_0 ?_
      refine si_4_2 rfl 27 dX3_years_26 rfl rfl ?_
      refine v_iconst (v := 0) 28 dX3_years_27 rfl ki_0 ?_
      refine si_4_3 rfl 29 dX3_years_28 rfl rfl ?_
      have e : yearsF P z (nI k) = ((yrS P z k).2.2, (yrS P z k).2.1) := by unfold yearsF; rw [kk_nI (by omega)]; exact ifP_neg (fun z => z.elim h2 (fun z => z h8))
      rw [e] at hQ
      exact key k hk hQ 0 (Nat.zero_le _) _ (hS.fr1 hF1) hC1 (hF1.C hb1)
    · refine v_bipush (v := (-2)) 13 dX3_years_11 rfl kb_m2 ?_
      refine v_iret dX3_years_13 rfl ?_
      rw [show yearsF P z m = (-2, z) from ifP_pos (Or.inr h8)] at hQ
      exact hQ _ hS FrC.rf
noncomputable def actF (P : PT) (h a c : Nat) : Option PT := if h = 0 then ifP (a = 0 ∧ c = 0) (some (passP P)) none else if h = 1 then ifP (stickQ P (nI a) (nI c)) (some (stickP P a (nI c))) none else if h = 2 then ifP (a = 0 ∧ sendQ P (nI c)) (some (sendP P c)) none else if h = 3 then ifP (joinedQ P (nI a) (nI c)) (some (partP P a c)) none else none
theorem actF_some {P R : PT} {h a c : Nat} (z : actR P h a c R) : actF P h a c = some R := by
  rcases z with ⟨e, e2, e3, e4⟩ | ⟨e, e2, e4⟩ | ⟨e, e2, e3, e4⟩ | ⟨e, e2, e4⟩
  · subst e; subst e4; exact ifP_pos ⟨e2, e3⟩
  · subst e; subst e4; exact ifP_pos e2
  · subst e; subst e4; exact ifP_pos ⟨e2, e3⟩
  · subst e; subst e4; exact ifP_pos e2
theorem actF_none {P : PT} {h a c : Nat} (z : ¬ ∃ R, actR P h a c R) : actF P h a c = none := by
  unfold actF
  by_cases e0 : h = 0
  · rw [if_pos e0]; exact ifP_neg (fun q => z ⟨_, Or.inl ⟨e0, q.1, q.2, rfl⟩⟩)
  · rw [if_neg e0]
    by_cases e1 : h = 1
    · rw [if_pos e1]; exact ifP_neg (fun q => z ⟨_, Or.inr (Or.inl ⟨e1, q, rfl⟩)⟩)
    · rw [if_neg e1]
      by_cases e2 : h = 2
      · rw [if_pos e2]; exact ifP_neg (fun q => z ⟨_, Or.inr (Or.inr (Or.inl ⟨e2, q.1, q.2, rfl⟩))⟩)
      · rw [if_neg e2]
        by_cases e3 : h = 3
        · rw [if_pos e3]; exact ifP_neg (fun q => z ⟨_, Or.inr (Or.inr (Or.inr ⟨e3, q, rfl⟩))⟩)
        · rw [if_neg e3]
/-- the doings of row r, told as n threes of figures, from place i on, f of them -/
noncomputable def judG (P : PT) (r n i : Nat) : Nat → Int32
  | 0 => -9
  | f + 1 => match actF P (r / 1000 ^ (n - 1 - i) % 1000 / 100) (r / 1000 ^ (n - 1 - i) % 1000 / 10 % 10) (r / 1000 ^ (n - 1 - i) % 1000 % 10) with
    | some R => judG R r n (i + 1) f
    | none => nI i
noncomputable def judgeF (P : PT) (m : Int32) (x : Int64) : Int32 := ifP (m < 1 ∨ ¬ m ≤ 4 ∨ x < 0 ∨ ∃ r, x = lN r ∧ r < 2 ^ 63 ∧ 1000 ^ (kk m) ≤ r) (-2) (judG P x.toInt.toNat (kk m) 0 (kk m))

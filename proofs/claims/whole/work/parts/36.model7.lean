theorem w64 (a b : Int32) : a.toInt64 < b.toInt64 ↔ a < b := by rw [Int64.lt_iff_toInt_lt, Int32.toInt_toInt64, Int32.toInt_toInt64, i_lt]
noncomputable def writeF (T : TT) (c : Int32) : Int32 × TT := ifP (c < 0 ∨ ¬ c ≤ 255) (-2, T) (ifP (T.1 = 48) (-4, T) (nI (T.1 + 1), (T.1 + 1, fun i => if i = T.1 then c else T.2 i)))
theorem in255 {c : Int32} (h : ¬ c.toInt64 < 0 ∧ ¬ (255 : Int64) < c.toInt64) : ¬ c < 0 ∧ c ≤ 255 := ⟨fun q => h.1 ((w64 c 0).mpr q), i_nlt.mp (fun q => h.2 ((w64 255 c).mpr q))⟩
theorem out255 {c : Int32} (h : c.toInt64 < 0 ∨ (255 : Int64) < c.toInt64) : c < 0 ∨ ¬ c ≤ 255 := h.imp (fun q => (w64 c 0).mp q) (fun q => i_nle.mpr ((w64 255 c).mp q))
theorem in99 {c : Int32} (h : ¬ c.toInt64 < 0 ∧ ¬ (99 : Int64) < c.toInt64) : inQ c 100 := inQ_99 (fun q => h.1 ((w64 c 0).mpr q)) (fun q => h.2 ((w64 99 c).mpr q))
theorem out99 {c : Int32} (h : c.toInt64 < 0 ∨ (99 : Int64) < c.toInt64) : ¬ inQ c 100 := h.elim (fun q => nQ_0 (by decide) ((w64 c 0).mp q)) (fun q => nQ_99 ((w64 99 c).mp q))
theorem in1 {c : Int32} (h : ¬ c.toInt64 < 0 ∧ ¬ (1 : Int64) < c.toInt64) : inQ c 2 := inQ_1 (fun q => h.1 ((w64 c 0).mpr q)) (i_nlt.mp (fun q => h.2 ((w64 1 c).mpr q)))
theorem out1 {c : Int32} (h : c.toInt64 < 0 ∨ (1 : Int64) < c.toInt64) : ¬ inQ c 2 := h.elim (fun q => nQ_0 (by decide) ((w64 c 0).mp q)) (fun q => nQ_1 (i_nle.mpr ((w64 1 c).mp q)))
theorem ixD (s : Nat) : nI s = nI (30 * 0 + s) := by rw [Nat.mul_zero, Nat.zero_add]
set_option maxHeartbeats 4000000 in
set_option maxRecDepth 100000 in
theorem c_X4_write {w : Wd} {P : PT} {T : TT} {A : AT} {U : Nat → Bool} {K : Nat → PT} {N : NT} {z : Int64} (hS : mS w P T A U K N z) {c : Int32} {Q : Option Value → Wd → Prop} (hQ : ∀ u, mS u P (writeF T c).2 A U K N z → FrK w u → Q (some (.int (writeF T c).1)) u) : V mX4_write 0 [some (.ref 1), some (.int c)] [] w Q := by
  have b5 := hS.1.2.2.1
  have b4 := hS.1.2.2.2.1
  have h48 := hS.2.1.2.1
  refine li_2_1 1 dX4_write_0 rfl ?_
  refine v_i2l 2 dX4_write_1 rfl ?_
  refine v_lconst (v := 0) 3 dX4_write_2 rfl rfl ?_
  refine v_ldc2 6 dX4_write_3 rfl kl_X4_54 ?_
  refine v_cSI3 9 dX4_write_6 rfl fvX4_in fsX4_in ml_X4_56 ⟨(Nat.le_of_ble_eq_true rfl), (Nat.le_of_ble_eq_true rfl)⟩ (Nat.le_of_ble_eq_true rfl) (Nat.le_of_ble_eq_true rfl) (c_X4_in (fun q6 => ⟨_, rfl, ?_⟩) (fun q6 => ⟨_, rfl, ?_⟩)) rfl
  · refine v_if_ne 15 12 dX4_write_9 rfl rfl (fun _ => ?_) (fun h => absurd h (by decide))
    refine la_2_0 16 dX4_write_15 rfl ?_
    refine vg_X4_60 rfl 19 dX4_write_16 rfl ?_
    rw [hS.2.1.1]
    refine v_bipush (v := 48) 21 dX4_write_19 rfl kb_48 ?_
    refine v_icmp_ne 27 24 dX4_write_21 rfl rfl (fun h21 => ?_) (fun h21 => ?_)
    · have g0 : ¬ T.1 = 48 := fun kz => h21 (by rw [kz]; rfl)
      have g : T.1 < 48 := by omega
      refine la_2_0 28 dX4_write_27 rfl ?_
      refine vg_X4_28 rfl 31 dX4_write_28 rfl ?_
      refine la_2_0 32 dX4_write_31 rfl ?_
      refine vg_X4_60 rfl 35 dX4_write_32 rfl ?_
      refine li_2_1 36 dX4_write_35 rfl ?_
      refine vw_X4_text T.1 37 dX4_write_36 rfl hS.2.1.1 g ?_
      refine la_2_0 38 dX4_write_37 rfl ?_
      refine v_dup 39 dX4_write_38 rfl rfl ?_
      refine vg_X4_60 rfl 42 dX4_write_39 rfl ?_
      refine v_iconst (v := 1) 43 dX4_write_42 rfl ki_1 ?_
      refine v_iadd 44 dX4_write_43 rfl ?_
      refine vs_X4_60 rfl 47 dX4_write_44 rfl ?_
      refine la_2_0 48 dX4_write_47 rfl ?_
      refine vg_X4_60 rfl 51 dX4_write_48 rfl ?_
      refine v_iret dX4_write_51 rfl ?_
      rw [show writeF T c = (nI (T.1 + 1), (T.1 + 1, fun i => if i = T.1 then c else T.2 i)) from (ifP_neg (fun q => q.elim (in255 q6).1 (fun q => q (in255 q6).2))).trans (ifP_neg (by omega))] at hQ
      have e : (w.1 20 + 1 : Int32) = nI (T.1 + 1) := by rw [hS.2.1.1]; exact nI_1 _
      show Q (some (.int (w.1 20 + 1))) _
      rw [e]
      refine hQ _ ⟨(hS.1.fA (by decide) FrA.oA).oS (by decide), ⟨e, g, fun i hi => ?_⟩, hS.2.2.1, hS.2.2.2.1, hS.2.2.2.2.1, hS.2.2.2.2.2.1, hS.2.2.2.2.2.2⟩ ((FrK.oA (by decide)).tr (FrK.oI (by decide)))
      have hi' : i < T.1 + 1 := hi
      show upd (w.2.2 37) T.1 c i = if i = T.1 then c else T.2 i
      simp only [upd]
      by_cases kz : i = T.1
      · rw [if_pos kz, if_pos kz]
      · rw [if_neg kz, if_neg kz]; exact hS.2.1.2.2 i (by omega)
    · have g : T.1 = 48 := nI_inj (b := 48) (by omega) (by omega) h21
      refine v_bipush (v := (-4)) 26 dX4_write_24 rfl kb_m4 ?_
      refine v_iret dX4_write_26 rfl ?_
      rw [show writeF T c = (-4, T) from (ifP_neg (fun q => q.elim (in255 q6).1 (fun q => q (in255 q6).2))).trans (ifP_pos g)] at hQ
      exact hQ _ hS FrK.rf
  · refine v_if_ne 15 12 dX4_write_9 rfl rfl (fun h => absurd rfl h) (fun _ => ?_)
    refine v_bipush (v := (-2)) 14 dX4_write_12 rfl kb_m2 ?_
    refine v_iret dX4_write_14 rfl ?_
    rw [show writeF T c = (-2, T) from ifP_pos (out255 q6)] at hQ
    exact hQ _ hS FrK.rf
set_option maxHeartbeats 4000000 in
set_option maxRecDepth 100000 in
theorem c_X4_see {w : Wd} {P : PT} {T : TT} {A : AT} {U : Nat → Bool} {K : Nat → PT} {N : NT} {z : Int64} (hS : mS w P T A U K N z) {i k a : Int32} {Q : Option Value → Wd → Prop} (hQ : ∀ u, mS u P T A U K (seeF P.1.1 N i k a).2 z → FrK w u → Q (some (.int (seeF P.1.1 N i k a).1)) u) : V mX4_see 0 [some (.ref 1), some (.int i), some (.int k), some (.int a)] [] w Q := by
  have b5 := hS.1.2.2.1
  have b4 := hS.1.2.2.2.1
  have b6 := hS.2.2.2.2.2.1.2.1
  refine la_4_0 1 dX4_see_0 rfl ?_
  refine li_4_1 2 dX4_see_1 rfl ?_
  refine v_cVI1 5 dX4_see_2 rfl fvX4_isStamp fiX4_isStamp ml_X4_128 (seX4) rfl ⟨(Nat.le_of_ble_eq_true rfl), (Nat.le_of_ble_eq_true rfl)⟩ (Nat.le_of_ble_eq_true rfl) (Nat.le_of_ble_eq_true rfl) (c_X4_isStamp hS.1 hb0 (fun q2 => ⟨_, rfl, ?_⟩) (fun q2 => ⟨_, rfl, ?_⟩)) rfl
  · refine v_if_ne 10 8 dX4_see_5 rfl rfl (fun _ => ?_) (fun h => absurd h (by decide))
    refine li_4_2 11 dX4_see_10 rfl ?_
    refine v_i2l 12 dX4_see_11 rfl ?_
    refine v_lconst (v := 0) 13 dX4_see_12 rfl rfl ?_
    refine v_ldc2 16 dX4_see_13 rfl kl_X4_191 ?_
    refine v_cSI3 19 dX4_see_16 rfl fvX4_in fsX4_in ml_X4_56 ⟨(Nat.le_of_ble_eq_true rfl), (Nat.le_of_ble_eq_true rfl)⟩ (Nat.le_of_ble_eq_true rfl) (Nat.le_of_ble_eq_true rfl) (c_X4_in (fun q16 => ⟨_, rfl, ?_⟩) (fun q16 => ⟨_, rfl, ?_⟩)) rfl
    · refine v_if_eq 32 22 dX4_see_19 rfl rfl (fun h => absurd h (by decide)) (fun _ => ?_)
      refine li_4_3 23 dX4_see_22 rfl ?_
      refine v_i2l 24 dX4_see_23 rfl ?_
      refine v_lconst (v := 0) 25 dX4_see_24 rfl rfl ?_
      refine v_lconst (v := 1) 26 dX4_see_25 rfl rfl ?_
      refine v_cSI3 29 dX4_see_26 rfl fvX4_in fsX4_in ml_X4_56 ⟨(Nat.le_of_ble_eq_true rfl), (Nat.le_of_ble_eq_true rfl)⟩ (Nat.le_of_ble_eq_true rfl) (Nat.le_of_ble_eq_true rfl) (c_X4_in (fun q26 => ⟨_, rfl, ?_⟩) (fun q26 => ⟨_, rfl, ?_⟩)) rfl
      · refine v_if_ne 35 32 dX4_see_29 rfl rfl (fun _ => ?_) (fun h => absurd h (by decide))
        refine la_4_0 36 dX4_see_35 rfl ?_
        refine vg_X4_193 rfl 39 dX4_see_36 rfl ?_
        rw [hS.2.2.2.2.2.1.1]
        refine v_bipush (v := 6) 41 dX4_see_39 rfl kb_6 ?_
        refine v_icmp_ne 47 44 dX4_see_41 rfl rfl (fun h41 => ?_) (fun h41 => ?_)
        · have g0 : ¬ N.1 = 6 := fun kz => h41 (by rw [kz]; rfl)
          have g : N.1 < 6 := by omega
          refine la_4_0 48 dX4_see_47 rfl ?_
          refine vg_X4_34 rfl 51 dX4_see_48 rfl ?_
          refine la_4_0 52 dX4_see_51 rfl ?_
          refine vg_X4_193 rfl 55 dX4_see_52 rfl ?_
          refine li_4_1 56 dX4_see_55 rfl ?_
          refine vw_X4_seenOf N.1 57 dX4_see_56 rfl hS.2.2.2.2.2.1.1 g ?_
          refine la_4_0 58 dX4_see_57 rfl ?_
          refine vg_X4_37 rfl 61 dX4_see_58 rfl ?_
          refine la_4_0 62 dX4_see_61 rfl ?_
          refine vg_X4_193 rfl 65 dX4_see_62 rfl ?_
          refine li_4_2 66 dX4_see_65 rfl ?_
          refine vw_X4_seenAfter N.1 67 dX4_see_66 rfl hS.2.2.2.2.2.1.1 g ?_
          refine la_4_0 68 dX4_see_67 rfl ?_
          refine vg_X4_40 rfl 71 dX4_see_68 rfl ?_
          refine la_4_0 72 dX4_see_71 rfl ?_
          refine vg_X4_193 rfl 75 dX4_see_72 rfl ?_
          refine li_4_3 76 dX4_see_75 rfl ?_
          refine vw_X4_seenAlive N.1 77 dX4_see_76 rfl hS.2.2.2.2.2.1.1 g ?_
          refine la_4_0 78 dX4_see_77 rfl ?_
          refine v_dup 79 dX4_see_78 rfl rfl ?_
          refine vg_X4_193 rfl 82 dX4_see_79 rfl ?_
          refine v_iconst (v := 1) 83 dX4_see_82 rfl ki_1 ?_
          refine v_iadd 84 dX4_see_83 rfl ?_
          refine vs_X4_193 rfl 87 dX4_see_84 rfl ?_
          refine la_4_0 88 dX4_see_87 rfl ?_
          refine vg_X4_193 rfl 91 dX4_see_88 rfl ?_
          refine v_iret dX4_see_91 rfl ?_
          rw [show seeF P.1.1 N i k a = _ from (ifP_neg (fun q => q q2)).trans ((ifP_neg (fun q => q ⟨in99 q16, in1 q26⟩)).trans (ifP_neg (by omega)))] at hQ
          have e : (w.1 25 + 1 : Int32) = nI (N.1 + 1) := by rw [hS.2.2.2.2.2.1.1]; exact nI_1 _
          show Q (some (.int (w.1 25 + 1))) _
          rw [e]
          obtain ⟨k1, hk1, rfl⟩ := q2
          obtain ⟨k2, hk2, rfl⟩ := in99 q16
          obtain ⟨k3, hk3, rfl⟩ := in1 q26
          refine hQ _ ⟨(((hS.1.fA (by decide) FrA.oA).fA (by decide) FrA.oA).fA (by decide) FrA.oA).oS (by decide), hS.2.1, hS.2.2.1, hS.2.2.2.1, hS.2.2.2.2.1, ⟨e, by show N.1 + 1 ≤ 6; omega, fun i hi => ?_⟩, hS.2.2.2.2.2.2⟩ ((((FrK.oA (by decide)).tr (FrK.oA (by decide))).tr (FrK.oA (by decide))).tr (FrK.oI (by decide)))
          have hi' : i < N.1 + 1 := hi
          show upd (w.2.2 39) N.1 (nI k1) i = nI (if i = N.1 then kk (nI k1) else N.2.1 i) ∧ upd (w.2.2 40) N.1 (nI k2) i = nI (if i = N.1 then kk (nI k2) else N.2.2.1 i) ∧ upd (w.2.2 41) N.1 (nI k3) i = bI (if i = N.1 then decide (nI k3 = 1) else N.2.2.2 i)
          simp only [upd, kk_nI (show k1 < 2 ^ 31 by omega), kk_nI (show k2 < 2 ^ 31 by omega)]
          by_cases kz : i = N.1
          · simp only [if_pos kz]
            refine ⟨trivial, trivial, ?_⟩
            rcases (show k3 = 0 ∨ k3 = 1 by omega) with rfl | rfl <;> decide
          · simp only [if_neg kz]; exact hS.2.2.2.2.2.1.2.2 i (by omega)
        · have g : N.1 = 6 := nI_inj (b := 6) (by omega) (by omega) h41
          refine v_bipush (v := (-4)) 46 dX4_see_44 rfl kb_m4 ?_
          refine v_iret dX4_see_46 rfl ?_
          rw [show seeF P.1.1 N i k a = (-4, N) from (ifP_neg (fun q => q q2)).trans ((ifP_neg (fun q => q ⟨in99 q16, in1 q26⟩)).trans (ifP_pos g))] at hQ
          exact hQ _ hS FrK.rf
      · refine v_if_ne 35 32 dX4_see_29 rfl rfl (fun h => absurd rfl h) (fun _ => ?_)
        refine v_bipush (v := (-2)) 34 dX4_see_32 rfl kb_m2 ?_
        refine v_iret dX4_see_34 rfl ?_
        rw [show seeF P.1.1 N i k a = (-2, N) from (ifP_neg (fun q => q q2)).trans (ifP_pos (fun q => out1 q26 q.2))] at hQ
        exact hQ _ hS FrK.rf
    · refine v_if_eq 32 22 dX4_see_19 rfl rfl (fun _ => ?_) (fun h => absurd rfl h)
      refine v_bipush (v := (-2)) 34 dX4_see_32 rfl kb_m2 ?_
      refine v_iret dX4_see_34 rfl ?_
      rw [show seeF P.1.1 N i k a = (-2, N) from (ifP_neg (fun q => q q2)).trans (ifP_pos (fun q => out99 q16 q.1))] at hQ
      exact hQ _ hS FrK.rf
  · refine v_if_ne 10 8 dX4_see_5 rfl rfl (fun h => absurd rfl h) (fun _ => ?_)
    refine v_iconst (v := (-1)) 9 dX4_see_8 rfl ki_m1 ?_
    refine v_iret dX4_see_9 rfl ?_
    rw [show seeF P.1.1 N i k a = (-1, N) from ifP_pos q2] at hQ
    exact hQ _ hS FrK.rf
set_option maxHeartbeats 4000000 in
set_option maxRecDepth 100000 in
theorem c_X4_stamp {w : Wd} {P : PT} {T : TT} {A : AT} {U : Nat → Bool} {K : Nat → PT} {N : NT} {z : Int64} (hS : mS w P T A U K N z) (hkd : ∀ s, s < P.1.1 → P.2 2 s = 0 ∨ P.2 2 s = 1 ∨ P.2 2 s = 2 ∨ P.2 2 s = 3) {i x : Int32} {Q : Option Value → Wd → Prop} (hQ : Q (some (.int (stampF P i x))) w) : V mX4_stamp 0 [some (.ref 1), some (.int i), some (.int x)] [] w Q := by
  have b5 := hS.1.2.2.1
  have b4 := hS.1.2.2.2.1
  refine la_3_0 1 dX4_stamp_0 rfl ?_
  refine li_3_1 2 dX4_stamp_1 rfl ?_
  refine v_cVI1 5 dX4_stamp_2 rfl fvX4_isStamp fiX4_isStamp ml_X4_128 (seX4) rfl ⟨(Nat.le_of_ble_eq_true rfl), (Nat.le_of_ble_eq_true rfl)⟩ (Nat.le_of_ble_eq_true rfl) (Nat.le_of_ble_eq_true rfl) (c_X4_isStamp hS.1 hb0 (fun q2 => ⟨_, rfl, ?_⟩) (fun q2 => ⟨_, rfl, ?_⟩)) rfl
  · obtain ⟨k, hk, rfl⟩ := q2
    refine v_if_ne 10 8 dX4_stamp_5 rfl rfl (fun _ => ?_) (fun h => absurd h (by decide))
    refine li_3_2 11 dX4_stamp_10 rfl ?_
    refine v_tab8 56 63 72 79 86 93 108 118 128 dX4_stamp_11 rfl rfl rfl rfl rfl rfl rfl rfl rfl (fun h11_0 => ?_) (fun h11_1 => ?_) (fun h11_2 => ?_) (fun h11_3 => ?_) (fun h11_4 => ?_) (fun h11_5 => ?_) (fun h11_6 => ?_) (fun h11_7 => ?_) (fun n11_0 n11_1 n11_2 n11_3 n11_4 n11_5 n11_6 n11_7 => ?_)
    · refine la_3_0 57 dX4_stamp_56 rfl ?_
      refine vg_X4_16 rfl 60 dX4_stamp_57 rfl ?_
      refine li_3_1 61 dX4_stamp_60 rfl ?_
      refine vmn_0 hS.1 hb0 _ 62 dX4_stamp_61 rfl (ixD k) hk ?_
      refine v_iret dX4_stamp_62 rfl ?_
      rw [show stampF P (nI k) x = stampG P k x from by unfold stampF; rw [kk_nI (by omega)]; exact ifP_neg (fun q => q ⟨k, hk, rfl⟩)] at hQ
      first
        | (subst_vars; exact hQ)
        | (subst_vars; rw [show stampG P k 5 = bI (alP P k) from rfl, q96] at hQ; exact hQ)
        | (unfold stampG at hQ; simp only [*, if_false] at hQ; exact hQ)
    · refine la_3_0 64 dX4_stamp_63 rfl ?_
      refine vg_X4_16 rfl 67 dX4_stamp_64 rfl ?_
      refine v_iconst (v := 5) 68 dX4_stamp_67 rfl ki_5 ?_
      refine li_3_1 69 dX4_stamp_68 rfl ?_
      refine v_iadd 70 dX4_stamp_69 rfl ?_
      refine vmn_1 hS.1 hb0 _ 71 dX4_stamp_70 rfl (ixC 5 k) hk ?_
      refine v_iret dX4_stamp_71 rfl ?_
      rw [show stampF P (nI k) x = stampG P k x from by unfold stampF; rw [kk_nI (by omega)]; exact ifP_neg (fun q => q ⟨k, hk, rfl⟩)] at hQ
      first
        | (subst_vars; exact hQ)
        | (subst_vars; rw [show stampG P k 5 = bI (alP P k) from rfl, q96] at hQ; exact hQ)
        | (unfold stampG at hQ; simp only [*, if_false] at hQ; exact hQ)
    · refine la_3_0 73 dX4_stamp_72 rfl ?_
      refine vg_X4_7 rfl 76 dX4_stamp_73 rfl ?_
      refine li_3_1 77 dX4_stamp_76 rfl ?_
      refine vmn_2 hS.1 hb0 _ 78 dX4_stamp_77 rfl rfl hk ?_
      refine v_iret dX4_stamp_78 rfl ?_
      rw [show stampF P (nI k) x = stampG P k x from by unfold stampF; rw [kk_nI (by omega)]; exact ifP_neg (fun q => q ⟨k, hk, rfl⟩)] at hQ
      first
        | (subst_vars; exact hQ)
        | (subst_vars; rw [show stampG P k 5 = bI (alP P k) from rfl, q96] at hQ; exact hQ)
        | (unfold stampG at hQ; simp only [*, if_false] at hQ; exact hQ)
    · refine la_3_0 80 dX4_stamp_79 rfl ?_
      refine v_iconst (v := 0) 81 dX4_stamp_80 rfl ki_0 ?_
      refine li_3_1 82 dX4_stamp_81 rfl ?_
      refine v_cVI2 85 dX4_stamp_82 rfl fvX4_span fiX4_span ml_X4_105 (seX4) rfl ⟨(Nat.le_of_ble_eq_true rfl), (Nat.le_of_ble_eq_true rfl)⟩ (Nat.le_of_ble_eq_true rfl) (Nat.le_of_ble_eq_true rfl) (c_X4_span (l := 0) hS.1 hb0 hk ⟨_, rfl, ?_⟩) rfl
      refine v_iret dX4_stamp_85 rfl ?_
      rw [show stampF P (nI k) x = stampG P k x from by unfold stampF; rw [kk_nI (by omega)]; exact ifP_neg (fun q => q ⟨k, hk, rfl⟩)] at hQ
      first
        | (subst_vars; exact hQ)
        | (subst_vars; rw [show stampG P k 5 = bI (alP P k) from rfl, q96] at hQ; exact hQ)
        | (unfold stampG at hQ; simp only [*, if_false] at hQ; exact hQ)
    · refine la_3_0 87 dX4_stamp_86 rfl ?_
      refine v_iconst (v := 0) 88 dX4_stamp_87 rfl ki_0 ?_
      refine li_3_1 89 dX4_stamp_88 rfl ?_
      refine v_cVI2 92 dX4_stamp_89 rfl fvX4_rate fiX4_rate ml_X4_112 (seX4) rfl ⟨(Nat.le_of_ble_eq_true rfl), (Nat.le_of_ble_eq_true rfl)⟩ (Nat.le_of_ble_eq_true rfl) (Nat.le_of_ble_eq_true rfl) (c_X4_rate (l := 0) hS.1 hb0 hkd hk ⟨_, rfl, ?_⟩) rfl
      refine v_iret dX4_stamp_92 rfl ?_
      rw [show stampF P (nI k) x = stampG P k x from by unfold stampF; rw [kk_nI (by omega)]; exact ifP_neg (fun q => q ⟨k, hk, rfl⟩)] at hQ
      first
        | (subst_vars; exact hQ)
        | (subst_vars; rw [show stampG P k 5 = bI (alP P k) from rfl, q96] at hQ; exact hQ)
        | (unfold stampG at hQ; simp only [*, if_false] at hQ; exact hQ)
    · refine la_3_0 94 dX4_stamp_93 rfl ?_
      refine v_iconst (v := 0) 95 dX4_stamp_94 rfl ki_0 ?_
      refine li_3_1 96 dX4_stamp_95 rfl ?_
      refine v_cVI2 99 dX4_stamp_96 rfl fvX4_isAlive fiX4_isAlive ml_X4_109 (seX4) rfl ⟨(Nat.le_of_ble_eq_true rfl), (Nat.le_of_ble_eq_true rfl)⟩ (Nat.le_of_ble_eq_true rfl) (Nat.le_of_ble_eq_true rfl) (c_X4_isAlive (l := 0) hS.1 hb0 hk (fun q96 => ⟨_, rfl, ?_⟩) (fun q96 => ⟨_, rfl, ?_⟩)) rfl
      · refine v_if_eq 106 102 dX4_stamp_99 rfl rfl (fun h => absurd h (by decide)) (fun _ => ?_)
        refine v_iconst (v := 1) 103 dX4_stamp_102 rfl ki_1 ?_
        refine v_goto 107 dX4_stamp_103 rfl ?_
        refine v_iret dX4_stamp_107 rfl ?_
        rw [show stampF P (nI k) x = stampG P k x from by unfold stampF; rw [kk_nI (by omega)]; exact ifP_neg (fun q => q ⟨k, hk, rfl⟩)] at hQ
        first
          | (subst_vars; exact hQ)
          | (subst_vars; rw [show stampG P k 5 = bI (alP P k) from rfl, q96] at hQ; exact hQ)
          | (unfold stampG at hQ; simp only [*, if_false] at hQ; exact hQ)
      · refine v_if_eq 106 102 dX4_stamp_99 rfl rfl (fun _ => ?_) (fun h => absurd rfl h)
        refine v_iconst (v := 0) 107 dX4_stamp_106 rfl ki_0 ?_
        refine v_iret dX4_stamp_107 rfl ?_
        rw [show stampF P (nI k) x = stampG P k x from by unfold stampF; rw [kk_nI (by omega)]; exact ifP_neg (fun q => q ⟨k, hk, rfl⟩)] at hQ
        first
          | (subst_vars; exact hQ)
          | (subst_vars; rw [show stampG P k 5 = bI (alP P k) from rfl, q96] at hQ; exact hQ)
          | (unfold stampG at hQ; simp only [*, if_false] at hQ; exact hQ)
    · refine la_3_0 109 dX4_stamp_108 rfl ?_
      refine vg_X4_16 rfl 112 dX4_stamp_109 rfl ?_
      refine v_bipush (v := 15) 114 dX4_stamp_112 rfl kb_15 ?_
      refine li_3_1 115 dX4_stamp_114 rfl ?_
      refine v_iadd 116 dX4_stamp_115 rfl ?_
      refine vmn_4 hS.1 hb0 _ 117 dX4_stamp_116 rfl (ixC 15 k) hk ?_
      refine v_iret dX4_stamp_117 rfl ?_
      rw [show stampF P (nI k) x = stampG P k x from by unfold stampF; rw [kk_nI (by omega)]; exact ifP_neg (fun q => q ⟨k, hk, rfl⟩)] at hQ
      first
        | (subst_vars; exact hQ)
        | (subst_vars; rw [show stampG P k 5 = bI (alP P k) from rfl, q96] at hQ; exact hQ)
        | (unfold stampG at hQ; simp only [*, if_false] at hQ; exact hQ)
    · refine la_3_0 119 dX4_stamp_118 rfl ?_
      refine vg_X4_16 rfl 122 dX4_stamp_119 rfl ?_
      refine v_bipush (v := 10) 124 dX4_stamp_122 rfl kb_10 ?_
      refine li_3_1 125 dX4_stamp_124 rfl ?_
      refine v_iadd 126 dX4_stamp_125 rfl ?_
      refine vmn_3 hS.1 hb0 _ 127 dX4_stamp_126 rfl (ixC 10 k) hk ?_
      refine v_iret dX4_stamp_127 rfl ?_
      rw [show stampF P (nI k) x = stampG P k x from by unfold stampF; rw [kk_nI (by omega)]; exact ifP_neg (fun q => q ⟨k, hk, rfl⟩)] at hQ
      first
        | (subst_vars; exact hQ)
        | (subst_vars; rw [show stampG P k 5 = bI (alP P k) from rfl, q96] at hQ; exact hQ)
        | (unfold stampG at hQ; simp only [*, if_false] at hQ; exact hQ)
    · refine v_bipush (v := (-2)) 130 dX4_stamp_128 rfl kb_m2 ?_
      refine v_iret dX4_stamp_130 rfl ?_
      rw [show stampF P (nI k) x = stampG P k x from by unfold stampF; rw [kk_nI (by omega)]; exact ifP_neg (fun q => q ⟨k, hk, rfl⟩)] at hQ
      first
        | (subst_vars; exact hQ)
        | (subst_vars; rw [show stampG P k 5 = bI (alP P k) from rfl, q96] at hQ; exact hQ)
        | (unfold stampG at hQ; simp only [*, if_false] at hQ; exact hQ)
  · refine v_if_ne 10 8 dX4_stamp_5 rfl rfl (fun h => absurd rfl h) (fun _ => ?_)
    refine v_iconst (v := (-1)) 9 dX4_stamp_8 rfl ki_m1 ?_
    refine v_iret dX4_stamp_9 rfl ?_
    rw [show stampF P i x = -1 from ifP_pos q2] at hQ
    exact hQ
set_option maxHeartbeats 4000000 in
set_option maxRecDepth 100000 in
theorem c_X4_letter {w : Wd} {P : PT} {T : TT} {A : AT} {U : Nat → Bool} {K : Nat → PT} {N : NT} {z : Int64} (hS : mS w P T A U K N z) (hkd : ∀ s, s < P.1.1 → P.2 2 s = 0 ∨ P.2 2 s = 1 ∨ P.2 2 s = 2 ∨ P.2 2 s = 3) {i x : Int32} {Q : Option Value → Wd → Prop} (hQ : Q (some (.int (letterF P i x))) w) : V mX4_letter 0 [some (.ref 1), some (.int i), some (.int x)] [] w Q := by
  have b5 := hS.1.2.2.1
  have b4 := hS.1.2.2.2.1
  refine la_3_0 1 dX4_letter_0 rfl ?_
  refine li_3_1 2 dX4_letter_1 rfl ?_
  refine v_cVI1 5 dX4_letter_2 rfl fvX4_isLetter fiX4_isLetter ml_X4_132 (seX4) rfl ⟨(Nat.le_of_ble_eq_true rfl), (Nat.le_of_ble_eq_true rfl)⟩ (Nat.le_of_ble_eq_true rfl) (Nat.le_of_ble_eq_true rfl) (c_X4_isLetter hS.1 hb0 (fun q2 => ⟨_, rfl, ?_⟩) (fun q2 => ⟨_, rfl, ?_⟩)) rfl
  · obtain ⟨k, hk, rfl⟩ := q2
    refine v_if_ne 10 8 dX4_letter_5 rfl rfl (fun _ => ?_) (fun h => absurd h (by decide))
    refine li_3_2 11 dX4_letter_10 rfl ?_
    refine v_tab5 44 54 61 68 80 90 dX4_letter_11 rfl rfl rfl rfl rfl rfl (fun h11_0 => ?_) (fun h11_1 => ?_) (fun h11_2 => ?_) (fun h11_3 => ?_) (fun h11_4 => ?_) (fun n11_0 n11_1 n11_2 n11_3 n11_4 => ?_)
    · refine la_3_0 45 dX4_letter_44 rfl ?_
      refine vg_X4_16 rfl 48 dX4_letter_45 rfl ?_
      refine v_bipush (v := 20) 50 dX4_letter_48 rfl kb_20 ?_
      refine li_3_1 51 dX4_letter_50 rfl ?_
      refine v_iadd 52 dX4_letter_51 rfl ?_
      refine vmn_5 hS.1 hb0 _ 53 dX4_letter_52 rfl (ixC 20 k) hk ?_
      refine v_iret dX4_letter_53 rfl ?_
      rw [show letterF P (nI k) x = letterG P k x from by unfold letterF; rw [kk_nI (by omega)]; exact ifP_neg (fun q => q ⟨k, hk, rfl⟩)] at hQ
      first
        | (subst_vars; exact hQ)
        | (unfold letterG at hQ; simp only [*, if_false] at hQ; exact hQ)
    · refine la_3_0 55 dX4_letter_54 rfl ?_
      refine vg_X4_13 rfl 58 dX4_letter_55 rfl ?_
      refine li_3_1 59 dX4_letter_58 rfl ?_
      refine vmn_6 hS.1 hb0 _ 60 dX4_letter_59 rfl rfl hk ?_
      refine v_iret dX4_letter_60 rfl ?_
      rw [show letterF P (nI k) x = letterG P k x from by unfold letterF; rw [kk_nI (by omega)]; exact ifP_neg (fun q => q ⟨k, hk, rfl⟩)] at hQ
      first
        | (subst_vars; exact hQ)
        | (unfold letterG at hQ; simp only [*, if_false] at hQ; exact hQ)
    · refine la_3_0 62 dX4_letter_61 rfl ?_
      refine v_iconst (v := 0) 63 dX4_letter_62 rfl ki_0 ?_
      refine li_3_1 64 dX4_letter_63 rfl ?_
      refine v_cVI2 67 dX4_letter_64 rfl fvX4_onLetter fiX4_onLetter ml_X4_125 (seX4) rfl ⟨(Nat.le_of_ble_eq_true rfl), (Nat.le_of_ble_eq_true rfl)⟩ (Nat.le_of_ble_eq_true rfl) (Nat.le_of_ble_eq_true rfl) (c_X4_onLetter (l := 0) hS.1 hb0 ⟨_, rfl, ?_⟩) rfl
      refine v_iret dX4_letter_67 rfl ?_
      rw [show letterF P (nI k) x = letterG P k x from by unfold letterF; rw [kk_nI (by omega)]; exact ifP_neg (fun q => q ⟨k, hk, rfl⟩)] at hQ
      first
        | (subst_vars; exact hQ)
        | (unfold letterG at hQ; simp only [*, if_false] at hQ; exact hQ)
    · refine la_3_0 69 dX4_letter_68 rfl ?_
      refine v_iconst (v := 0) 70 dX4_letter_69 rfl ki_0 ?_
      refine la_3_0 71 dX4_letter_70 rfl ?_
      refine v_iconst (v := 0) 72 dX4_letter_71 rfl ki_0 ?_
      refine li_3_1 73 dX4_letter_72 rfl ?_
      refine v_cVI2 76 dX4_letter_73 rfl fvX4_onLetter fiX4_onLetter ml_X4_125 (seX4) rfl ⟨(Nat.le_of_ble_eq_true rfl), (Nat.le_of_ble_eq_true rfl)⟩ (Nat.le_of_ble_eq_true rfl) (Nat.le_of_ble_eq_true rfl) (c_X4_onLetter (l := 0) hS.1 hb0 ⟨_, rfl, ?_⟩) rfl
      refine v_cVI2 79 dX4_letter_76 rfl fvX4_goodFor fiX4_goodFor ml_X4_135 (seX4) rfl ⟨(Nat.le_of_ble_eq_true rfl), (Nat.le_of_ble_eq_true rfl)⟩ (Nat.le_of_ble_eq_true rfl) (Nat.le_of_ble_eq_true rfl) (c_X4_goodFor (l := 0) hS.1 hb0 hkd ⟨_, rfl, ?_⟩) rfl
      refine v_iret dX4_letter_79 rfl ?_
      rw [show letterF P (nI k) x = letterG P k x from by unfold letterF; rw [kk_nI (by omega)]; exact ifP_neg (fun q => q ⟨k, hk, rfl⟩)] at hQ
      first
        | (subst_vars; exact hQ)
        | (unfold letterG at hQ; simp only [*, if_false] at hQ; exact hQ)
    · refine la_3_0 81 dX4_letter_80 rfl ?_
      refine vg_X4_16 rfl 84 dX4_letter_81 rfl ?_
      refine v_bipush (v := 24) 86 dX4_letter_84 rfl kb_24 ?_
      refine li_3_1 87 dX4_letter_86 rfl ?_
      refine v_iadd 88 dX4_letter_87 rfl ?_
      refine vmn_7 hS.1 hb0 _ 89 dX4_letter_88 rfl (ixC 24 k) hk ?_
      refine v_iret dX4_letter_89 rfl ?_
      rw [show letterF P (nI k) x = letterG P k x from by unfold letterF; rw [kk_nI (by omega)]; exact ifP_neg (fun q => q ⟨k, hk, rfl⟩)] at hQ
      first
        | (subst_vars; exact hQ)
        | (unfold letterG at hQ; simp only [*, if_false] at hQ; exact hQ)
    · refine v_bipush (v := (-2)) 92 dX4_letter_90 rfl kb_m2 ?_
      refine v_iret dX4_letter_92 rfl ?_
      rw [show letterF P (nI k) x = letterG P k x from by unfold letterF; rw [kk_nI (by omega)]; exact ifP_neg (fun q => q ⟨k, hk, rfl⟩)] at hQ
      first
        | (subst_vars; exact hQ)
        | (unfold letterG at hQ; simp only [*, if_false] at hQ; exact hQ)
  · refine v_if_ne 10 8 dX4_letter_5 rfl rfl (fun h => absurd rfl h) (fun _ => ?_)
    refine v_iconst (v := (-1)) 9 dX4_letter_8 rfl ki_m1 ?_
    refine v_iret dX4_letter_9 rfl ?_
    rw [show letterF P i x = -1 from ifP_pos q2] at hQ
    exact hQ
set_option maxHeartbeats 4000000 in
set_option maxRecDepth 100000 in
theorem c_X4_count {w : Wd} {P : PT} {T : TT} {A : AT} {U : Nat → Bool} {K : Nat → PT} {N : NT} {z : Int64} (hS : mS w P T A U K N z) {x : Int32} {Q : Option Value → Wd → Prop} (hQ : Q (some (.int (countF P T.1 A.1 N.1 x))) w) : V mX4_count 0 [some (.ref 1), some (.int x)] [] w Q := by
  have b5 := hS.1.2.2.1
  have b4 := hS.1.2.2.2.1
  refine li_2_1 1 dX4_count_0 rfl ?_
  refine v_tab11 60 65 70 75 83 91 97 103 109 115 120 125 dX4_count_1 rfl rfl rfl rfl rfl rfl rfl rfl rfl rfl rfl rfl (fun h1_0 => ?_) (fun h1_1 => ?_) (fun h1_2 => ?_) (fun h1_3 => ?_) (fun h1_4 => ?_) (fun h1_5 => ?_) (fun h1_6 => ?_) (fun h1_7 => ?_) (fun h1_8 => ?_) (fun h1_9 => ?_) (fun h1_10 => ?_) (fun n1_0 n1_1 n1_2 n1_3 n1_4 n1_5 n1_6 n1_7 n1_8 n1_9 n1_10 => ?_)
  · refine la_2_0 61 dX4_count_60 rfl ?_
    refine vg_X4_60 rfl 64 dX4_count_61 rfl ?_
    refine v_iret dX4_count_64 rfl ?_
    first
      | (subst_vars; exact hQ)
      | (subst_vars; rw [hS.2.1.1]; exact hQ)
      | (subst_vars; rw [hS.2.2.1.1]; exact hQ)
      | (subst_vars; rw [hS.2.2.2.2.2.1.1]; exact hQ)
      | (unfold countF at hQ; simp only [*, if_false] at hQ; exact hQ)
  · refine la_2_0 66 dX4_count_65 rfl ?_
    refine vgm_stamps hS.1 hb0 rfl 69 dX4_count_66 rfl ?_
    refine v_iret dX4_count_69 rfl ?_
    first
      | (subst_vars; exact hQ)
      | (subst_vars; rw [hS.2.1.1]; exact hQ)
      | (subst_vars; rw [hS.2.2.1.1]; exact hQ)
      | (subst_vars; rw [hS.2.2.2.2.2.1.1]; exact hQ)
      | (unfold countF at hQ; simp only [*, if_false] at hQ; exact hQ)
  · refine la_2_0 71 dX4_count_70 rfl ?_
    refine vgm_letters hS.1 hb0 rfl 74 dX4_count_71 rfl ?_
    refine v_iret dX4_count_74 rfl ?_
    first
      | (subst_vars; exact hQ)
      | (subst_vars; rw [hS.2.1.1]; exact hQ)
      | (subst_vars; rw [hS.2.2.1.1]; exact hQ)
      | (subst_vars; rw [hS.2.2.2.2.2.1.1]; exact hQ)
      | (unfold countF at hQ; simp only [*, if_false] at hQ; exact hQ)
  · refine la_2_0 76 dX4_count_75 rfl ?_
    refine vg_X4_16 rfl 79 dX4_count_76 rfl ?_
    refine v_bipush (v := 29) 81 dX4_count_79 rfl kb_29 ?_
    refine vmr_week hS.1 hb0 82 dX4_count_81 rfl rfl ?_
    refine v_iret dX4_count_82 rfl ?_
    first
      | (subst_vars; exact hQ)
      | (subst_vars; rw [hS.2.1.1]; exact hQ)
      | (subst_vars; rw [hS.2.2.1.1]; exact hQ)
      | (subst_vars; rw [hS.2.2.2.2.2.1.1]; exact hQ)
      | (unfold countF at hQ; simp only [*, if_false] at hQ; exact hQ)
  · refine la_2_0 84 dX4_count_83 rfl ?_
    refine vg_X4_16 rfl 87 dX4_count_84 rfl ?_
    refine v_bipush (v := 28) 89 dX4_count_87 rfl kb_28 ?_
    refine vmr_damp hS.1 hb0 90 dX4_count_89 rfl rfl ?_
    refine v_iret dX4_count_90 rfl ?_
    first
      | (subst_vars; exact hQ)
      | (subst_vars; rw [hS.2.1.1]; exact hQ)
      | (subst_vars; rw [hS.2.2.1.1]; exact hQ)
      | (subst_vars; rw [hS.2.2.2.2.2.1.1]; exact hQ)
      | (unfold countF at hQ; simp only [*, if_false] at hQ; exact hQ)
  · refine la_2_0 92 dX4_count_91 rfl ?_
    refine v_iconst (v := 0) 93 dX4_count_92 rfl ki_0 ?_
    refine v_cVI1 96 dX4_count_93 rfl fvX4_living fiX4_living ml_X4_115 (seX4) rfl ⟨(Nat.le_of_ble_eq_true rfl), (Nat.le_of_ble_eq_true rfl)⟩ (Nat.le_of_ble_eq_true rfl) (Nat.le_of_ble_eq_true rfl) (c_X4_living (l := 0) hS.1 hb0 ⟨_, rfl, ?_⟩) rfl
    refine v_iret dX4_count_96 rfl ?_
    first
      | (subst_vars; exact hQ)
      | (subst_vars; rw [hS.2.1.1]; exact hQ)
      | (subst_vars; rw [hS.2.2.1.1]; exact hQ)
      | (subst_vars; rw [hS.2.2.2.2.2.1.1]; exact hQ)
      | (unfold countF at hQ; simp only [*, if_false] at hQ; exact hQ)
  · refine la_2_0 98 dX4_count_97 rfl ?_
    refine v_iconst (v := 0) 99 dX4_count_98 rfl ki_0 ?_
    refine v_cVI1 102 dX4_count_99 rfl fvX4_widows fiX4_widows ml_X4_122 (seX4) rfl ⟨(Nat.le_of_ble_eq_true rfl), (Nat.le_of_ble_eq_true rfl)⟩ (Nat.le_of_ble_eq_true rfl) (Nat.le_of_ble_eq_true rfl) (c_X4_widows (l := 0) hS.1 hb0 ⟨_, rfl, ?_⟩) rfl
    refine v_iret dX4_count_102 rfl ?_
    first
      | (subst_vars; exact hQ)
      | (subst_vars; rw [hS.2.1.1]; exact hQ)
      | (subst_vars; rw [hS.2.2.1.1]; exact hQ)
      | (subst_vars; rw [hS.2.2.2.2.2.1.1]; exact hQ)
      | (unfold countF at hQ; simp only [*, if_false] at hQ; exact hQ)
  · refine la_2_0 104 dX4_count_103 rfl ?_
    refine v_iconst (v := 2) 105 dX4_count_104 rfl ki_2 ?_
    refine v_cVI1 108 dX4_count_105 rfl fvX4_lettersThatAre fiX4_lettersThatAre ml_X4_224 (seX4) rfl ⟨(Nat.le_of_ble_eq_true rfl), (Nat.le_of_ble_eq_true rfl)⟩ (Nat.le_of_ble_eq_true rfl) (Nat.le_of_ble_eq_true rfl) (c_X4_lettersThatAre hS.1 ⟨_, rfl, ?_⟩) rfl
    refine v_iret dX4_count_108 rfl ?_
    first
      | (subst_vars; exact hQ)
      | (subst_vars; rw [hS.2.1.1]; exact hQ)
      | (subst_vars; rw [hS.2.2.1.1]; exact hQ)
      | (subst_vars; rw [hS.2.2.2.2.2.1.1]; exact hQ)
      | (unfold countF at hQ; simp only [*, if_false] at hQ; exact hQ)
  · refine la_2_0 110 dX4_count_109 rfl ?_
    refine v_iconst (v := 3) 111 dX4_count_110 rfl ki_3 ?_
    refine v_cVI1 114 dX4_count_111 rfl fvX4_lettersThatAre fiX4_lettersThatAre ml_X4_224 (seX4) rfl ⟨(Nat.le_of_ble_eq_true rfl), (Nat.le_of_ble_eq_true rfl)⟩ (Nat.le_of_ble_eq_true rfl) (Nat.le_of_ble_eq_true rfl) (c_X4_lettersThatAre hS.1 ⟨_, rfl, ?_⟩) rfl
    refine v_iret dX4_count_114 rfl ?_
    first
      | (subst_vars; exact hQ)
      | (subst_vars; rw [hS.2.1.1]; exact hQ)
      | (subst_vars; rw [hS.2.2.1.1]; exact hQ)
      | (subst_vars; rw [hS.2.2.2.2.2.1.1]; exact hQ)
      | (unfold countF at hQ; simp only [*, if_false] at hQ; exact hQ)
  · refine la_2_0 116 dX4_count_115 rfl ?_
    refine vg_X4_102 rfl 119 dX4_count_116 rfl ?_
    refine v_iret dX4_count_119 rfl ?_
    first
      | (subst_vars; exact hQ)
      | (subst_vars; rw [hS.2.1.1]; exact hQ)
      | (subst_vars; rw [hS.2.2.1.1]; exact hQ)
      | (subst_vars; rw [hS.2.2.2.2.2.1.1]; exact hQ)
      | (unfold countF at hQ; simp only [*, if_false] at hQ; exact hQ)
  · refine la_2_0 121 dX4_count_120 rfl ?_
    refine vg_X4_193 rfl 124 dX4_count_121 rfl ?_
    refine v_iret dX4_count_124 rfl ?_
    first
      | (subst_vars; exact hQ)
      | (subst_vars; rw [hS.2.1.1]; exact hQ)
      | (subst_vars; rw [hS.2.2.1.1]; exact hQ)
      | (subst_vars; rw [hS.2.2.2.2.2.1.1]; exact hQ)
      | (unfold countF at hQ; simp only [*, if_false] at hQ; exact hQ)
  · refine v_bipush (v := (-2)) 127 dX4_count_125 rfl kb_m2 ?_
    refine v_iret dX4_count_127 rfl ?_
    first
      | (subst_vars; exact hQ)
      | (subst_vars; rw [hS.2.1.1]; exact hQ)
      | (subst_vars; rw [hS.2.2.1.1]; exact hQ)
      | (subst_vars; rw [hS.2.2.2.2.2.1.1]; exact hQ)
      | (unfold countF at hQ; simp only [*, if_false] at hQ; exact hQ)

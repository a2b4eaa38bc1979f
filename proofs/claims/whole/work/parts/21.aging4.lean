theorem reach_cong {x y : Nat → Int32} : ∀ {i : Nat} {s : RT}, (∀ j, j < i → x j = y j) → reachR x i s → reachR y i s
  | 0, _, _, h => h
  | i + 1, _, e, ⟨t, h1, h2⟩ => ⟨t, reach_cong (fun j hj => e j (by omega)) h1, by rw [← e i (by omega)]; exact h2⟩
theorem text_cong {x y : Nat → Int32} {n : Nat} {r : Int32} {s : RT} (e : ∀ j, j < n → x j = y j) (h : textR x n r s) : textR y n r s := by
  rcases h with ⟨i, hi, h1, h2, h3⟩ | ⟨h1, h2⟩ | ⟨h1, h2⟩
  · exact Or.inl ⟨i, hi, reach_cong (fun j hj => e j (by omega)) h1, by rw [← e i hi]; exact h2, h3⟩
  · exact Or.inr (Or.inl ⟨reach_cong e h1, h2⟩)
  · exact Or.inr (Or.inr ⟨reach_cong e h1, h2⟩)
theorem cS.frR1 {w u : Wd} {P : PT} {T : TT} {A : AT} {U : Nat → Bool} {K : Nat → PT} {N : NT} {z : Int64} (h : cS w P T A U K N z) (hF : FrR 1 w u) : cS u P T A U K N z := ⟨h.1.mv (fun j hj => hF.1 _ (by unfold pj; omega)) (fun j hj => hF.2.2 _ (by unfold ar; omega)), h.2.frR (by decide) hF⟩
theorem isD.z {w : Wd} {b : Nat} {s : RT} (h : isD w b s.2.2.2.2) : True := trivial
set_option maxHeartbeats 4000000 in
set_option maxRecDepth 100000 in
theorem c_X3_fault {w : Wd} {P : PT} {T : TT} {A : AT} {U : Nat → Bool} {K : Nat → PT} {N : NT} {z : Int64} (hS : cS w P T A U K N z) {Q : Option Value → Wd → Prop} (hQ : ∀ r s u, textR T.2 T.1 r s → cS u P T A U K N z → FrC w u → Q (some (.int r)) u) : V mX3_fault 0 [some (.ref 0)] [] w Q := by
  have b5 := hS.1.2.2.2.2.1
  have b4 := hS.1.2.2.2.2.2.1
  refine la_1_0 1 dX3_fault_0 rfl ?_
  refine la_1_0 2 dX3_fault_1 rfl ?_
  refine vg_X3_27 rfl 5 dX3_fault_2 rfl ?_
  refine v_cVI1 8 dX3_fault_5 rfl fvX3_readInto fiX3_readInto ml_X3_62 (seX3) rfl ⟨(Nat.le_of_ble_eq_true rfl), (Nat.le_of_ble_eq_true rfl)⟩ (Nat.le_of_ble_eq_true rfl) (Nat.le_of_ble_eq_true rfl) (c_X3_readInto hb1 hS.2.1.1 hS.2.1.2.1 (fun r s u1 e1 d1 F1 => ⟨_, rfl, ?_⟩)) rfl
  refine v_iret dX3_fault_8 rfl ?_
  exact hQ _ s _ (text_cong hS.2.1.2.2 e1) (hS.frR1 F1) (F1.C hb1)
set_option maxHeartbeats 4000000 in
set_option maxRecDepth 100000 in
theorem c_X3_album {w : Wd} {P : PT} {T : TT} {A : AT} {U : Nat → Bool} {K : Nat → PT} {N : NT} {z : Int64} (hS : cS w P T A U K N z) (hDz : ∀ i s, reachR T.2 i s → s.2.2.2.2.1.2.2.2 = 0) {Q : Option Value → Wd → Prop} (hQ : ∀ r s u, textR T.2 T.1 r s → ¬ r = -9 → cS u P T A U K N z → FrC w u → Q (some (.int (-3))) u) (hR : ∀ s u, textR T.2 T.1 (-9) s → cS u s.2.2.2.2 T (0, A.2) (fun _ => false) K N z → FrC w u → Q (some (.int (10 * nI s.2.2.2.2.1.1 + nI s.2.2.2.2.1.2.1))) u) : V mX3_album 0 [some (.ref 0), none] [] w Q := by
  refine la_2_0 1 dX3_album_0 rfl ?_
  refine la_2_0 2 dX3_album_1 rfl ?_
  refine vg_X3_27 rfl 5 dX3_album_2 rfl ?_
  refine v_cVI1 8 dX3_album_5 rfl fvX3_readInto fiX3_readInto ml_X3_62 (seX3) rfl ⟨(Nat.le_of_ble_eq_true rfl), (Nat.le_of_ble_eq_true rfl)⟩ (Nat.le_of_ble_eq_true rfl) (Nat.le_of_ble_eq_true rfl) (c_X3_readInto hb1 hS.2.1.1 hS.2.1.2.1 (fun r s u1 e1 d1 F1 => ⟨_, rfl, ?_⟩)) rfl
  refine v_bipush (v := (-9)) 10 dX3_album_8 rfl kb_m9 ?_
  refine v_icmp_eq 16 13 dX3_album_10 rfl rfl (fun h10 => ?_) (fun h10 => ?_)
  · subst h10
    have hT := text_cong hS.2.1.2.2 e1
    have h10 : (-9 : Int32) = -9 := rfl
    have hz0 : s.2.2.2.2.1.2.2.2 = 0 := by
      rcases hT with ⟨i, hi, h1, -⟩ | ⟨h1, -⟩ | ⟨h1, -⟩ <;> exact hDz _ _ h1
    refine la_2_0 17 dX3_album_16 rfl ?_
    refine vg_X3_23 rfl 20 dX3_album_17 rfl ?_
    refine la_2_0 21 dX3_album_20 rfl ?_
    refine vg_X3_27 rfl 24 dX3_album_21 rfl ?_
    refine v_cVN1 27 dX3_album_24 rfl fvX1_copyFrom fiX1_copyFrom ml_X3_66 (seX1 hb0) rfl ⟨(Nat.le_of_ble_eq_true rfl), (Nat.le_of_ble_eq_true rfl)⟩ (Nat.le_of_ble_eq_true rfl) (Nat.le_of_ble_eq_true rfl) (c_X1_copyFrom hb0 hb1 (by decide) (d1 h10).1 (Or.inl hz0) (fun u2 hC2 hF2 => ⟨rfl, ?_⟩)) rfl
    refine la_2_0 28 dX3_album_27 rfl ?_
    refine v_iconst (v := 0) 29 dX3_album_28 rfl ki_0 ?_
    refine vs_X3_70 rfl 32 dX3_album_29 rfl ?_
    refine v_iconst (v := 0) 33 dX3_album_32 rfl ki_0 ?_
    refine si_2_1 rfl 34 dX3_album_33 rfl rfl ?_
    have g2 := (hS.2.frR hb1 F1).fr hb0 hF2
    have key : ∀ u, isC u 0 s.2.2.2.2 → cR u T (0, A.2) (fun _ => false) K N z → FrC w u → V mX3_album 52 [some (.ref 0), some (.int 2)] [] u Q := by
      intro u hCn hRn hGn
      refine v_bipush (v := 10) 54 dX3_album_52 rfl kb_10 ?_
      refine la_2_0 55 dX3_album_54 rfl ?_
      refine vg_X3_23 rfl 58 dX3_album_55 rfl ?_
      refine vgq_X3_73 hb0 hCn rfl 61 dX3_album_58 rfl ?_
      refine v_imul 62 dX3_album_61 rfl ?_
      refine la_2_0 63 dX3_album_62 rfl ?_
      refine vg_X3_23 rfl 66 dX3_album_63 rfl ?_
      refine vgq_X3_76 hb0 hCn rfl 69 dX3_album_66 rfl ?_
      refine v_iadd 70 dX3_album_69 rfl ?_
      refine v_iret dX3_album_70 rfl ?_
      exact hR s _ hT ⟨hCn, hRn⟩ hGn
    refine li_2_1 35 dX3_album_34 rfl ?_
    refine v_iconst (v := 2) 36 dX3_album_35 rfl ki_2 ?_
    refine v_icmp_ge 52 39 dX3_album_36 rfl rfl (fun h36 => ?_) (fun h36 => ?_)
    · exact absurd h36 (by decide)
    · refine la_2_0 40 dX3_album_39 rfl ?_
      refine vg_X3_42 rfl 43 dX3_album_40 rfl ?_
      refine li_2_1 44 dX3_album_43 rfl ?_
      refine v_iconst (v := 0) 45 dX3_album_44 rfl ki_0 ?_
      refine vw_X3_slotUsed 0 46 dX3_album_45 rfl rfl (by decide) (Or.inl rfl) ?_
      refine icn_2_1 rfl 49 dX3_album_46 rfl rfl ?_
      refine v_goto 34 dX3_album_49 rfl ?_
      refine li_2_1 35 dX3_album_34 rfl ?_
      refine v_iconst (v := 2) 36 dX3_album_35 rfl ki_2 ?_
      refine v_icmp_ge 52 39 dX3_album_36 rfl rfl (fun h36 => ?_) (fun h36 => ?_)
      · exact absurd h36 (by decide)
      · refine la_2_0 40 dX3_album_39 rfl ?_
        refine vg_X3_42 rfl 43 dX3_album_40 rfl ?_
        refine li_2_1 44 dX3_album_43 rfl ?_
        refine v_iconst (v := 0) 45 dX3_album_44 rfl ki_0 ?_
        refine vw_X3_slotUsed 1 46 dX3_album_45 rfl rfl (by decide) (Or.inl rfl) ?_
        refine icn_2_1 rfl 49 dX3_album_46 rfl rfl ?_
        refine v_goto 34 dX3_album_49 rfl ?_
        refine li_2_1 35 dX3_album_34 rfl ?_
        refine v_iconst (v := 2) 36 dX3_album_35 rfl ki_2 ?_
        refine v_icmp_ge 52 39 dX3_album_36 rfl rfl (fun h36 => ?_) (fun h36 => ?_)
        · refine key _ ?_ ?_ ?_
          · exact ((hC2.oS (by decide)).oT hb0 (by decide)).oT hb0 (by decide)
          · refine ⟨g2.1, ⟨rfl, Nat.zero_le _, fun i hi => absurd hi (Nat.not_lt_zero i)⟩, fun i hi => ?_, (fun i hi h => by simp at h), g2.2.2.2.2.1, g2.2.2.2.2.2⟩
            show upd (upd (u2.2.2 26) 0 0) 1 0 i = bI false
            rcases (show i = 0 ∨ i = 1 by omega) with rfl | rfl <;> rfl
          · exact ((((F1.C hb1).tr (hF2.C hb0)).tr (FrC.oI (by decide))).tr (FrC.oA (by decide))).tr (FrC.oA (by decide))
        · exact absurd (by decide) h36
  · refine v_bipush (v := (-3)) 15 dX3_album_13 rfl kb_m3 ?_
    refine v_iret dX3_album_15 rfl ?_
    exact hQ _ s _ (text_cong hS.2.1.2.2 e1) h10 (hS.frR1 F1) (F1.C hb1)
def stampG (P : PT) (k : Nat) (x : Int32) : Int32 := if x = 0 then P.2 0 k else if x = 1 then P.2 1 k else if x = 2 then P.2 2 k else if x = 3 then spanF (P.2 2 k) (P.2 1 k) else if x = 4 then rateP P k else if x = 5 then bI (alP P k) else if x = 6 then P.2 4 k else if x = 7 then P.2 3 k else -2
noncomputable def stampF (P : PT) (i x : Int32) : Int32 := ifP (¬ inQ i P.1.1) (-1) (stampG P (kk i) x)
def letterG (P : PT) (k : Nat) (x : Int32) : Int32 := if x = 0 then P.2 5 k else if x = 1 then P.2 6 k else if x = 2 then stuckP P (nI k) else if x = 3 then goodP P (stuckP P (nI k)) else if x = 4 then P.2 7 k else -2
noncomputable def letterF (P : PT) (l x : Int32) : Int32 := ifP (¬ inQ l P.1.2.1) (-1) (letterG P (kk l) x)
def countF (P : PT) (n k m : Nat) (x : Int32) : Int32 := if x = 0 then nI n else if x = 1 then nI P.1.1 else if x = 2 then nI P.1.2.1 else if x = 3 then P.1.2.2.1 else if x = 4 then P.1.2.2.2 else if x = 5 then aliveP P else if x = 6 then widP P else if x = 7 then fateP P 2 else if x = 8 then fateP P 3 else if x = 9 then nI k else if x = 10 then nI m else -2
set_option maxHeartbeats 4000000 in
set_option maxRecDepth 100000 in
theorem c_X3_stamp {w : Wd} {P : PT} {T : TT} {A : AT} {U : Nat → Bool} {K : Nat → PT} {N : NT} {z : Int64} (hS : cS w P T A U K N z) {i x : Int32} {Q : Option Value → Wd → Prop} (hQ : Q (some (.int (stampF P i x))) w) : V mX3_stamp 0 [some (.ref 0), some (.int i), some (.int x)] [] w Q := by
  have b5 := hS.1.2.2.2.2.1
  have b4 := hS.1.2.2.2.2.2.1
  refine la_3_0 1 dX3_stamp_0 rfl ?_
  refine vg_X3_23 rfl 4 dX3_stamp_1 rfl ?_
  refine li_3_1 5 dX3_stamp_4 rfl ?_
  refine v_cVI1 8 dX3_stamp_5 rfl fvX1_hasStamp fiX1_hasStamp ml_X3_79 (seX1 hb0) rfl ⟨(Nat.le_of_ble_eq_true rfl), (Nat.le_of_ble_eq_true rfl)⟩ (Nat.le_of_ble_eq_true rfl) (Nat.le_of_ble_eq_true rfl) (c_X1_hasStamp hb0 hS.1 (fun q5 => ⟨_, rfl, ?_⟩) (fun q5 => ⟨_, rfl, ?_⟩)) rfl
  · obtain ⟨k, hk, rfl⟩ := q5
    refine v_if_ne 13 11 dX3_stamp_8 rfl rfl (fun _ => ?_) (fun h => absurd h (by decide))
    refine li_3_2 14 dX3_stamp_13 rfl ?_
    refine v_tab8 60 70 80 90 99 108 125 135 145 dX3_stamp_14 rfl rfl rfl rfl rfl rfl rfl rfl rfl (fun h14_0 => ?_) (fun h14_1 => ?_) (fun h14_2 => ?_) (fun h14_3 => ?_) (fun h14_4 => ?_) (fun h14_5 => ?_) (fun h14_6 => ?_) (fun h14_7 => ?_) (fun n14_0 n14_1 n14_2 n14_3 n14_4 n14_5 n14_6 n14_7 => ?_)
    · refine la_3_0 61 dX3_stamp_60 rfl ?_
      refine vg_X3_23 rfl 64 dX3_stamp_61 rfl ?_
      refine vg_X3_83 hb0 rfl 67 dX3_stamp_64 rfl ?_
      refine li_3_1 68 dX3_stamp_67 rfl ?_
      refine vlq_X1_age hb0 hS.1 _ 69 dX3_stamp_68 rfl rfl hk ?_
      refine v_iret dX3_stamp_69 rfl ?_
      rw [show stampF P (nI k) x = stampG P k x from by unfold stampF; rw [kk_nI (by omega)]; exact ifP_neg (fun q => q ⟨k, hk, rfl⟩)] at hQ
      first
        | (subst_vars; exact hQ)
        | (subst_vars; rw [show stampG P k 5 = bI (alP P k) from rfl, q98] at hQ; exact hQ)
        | (unfold stampG at hQ; simp only [*, if_false] at hQ; exact hQ)
    · refine la_3_0 71 dX3_stamp_70 rfl ?_
      refine vg_X3_23 rfl 74 dX3_stamp_71 rfl ?_
      refine vg_X3_86 hb0 rfl 77 dX3_stamp_74 rfl ?_
      refine li_3_1 78 dX3_stamp_77 rfl ?_
      refine vlq_X1_health hb0 hS.1 _ 79 dX3_stamp_78 rfl rfl hk ?_
      refine v_iret dX3_stamp_79 rfl ?_
      rw [show stampF P (nI k) x = stampG P k x from by unfold stampF; rw [kk_nI (by omega)]; exact ifP_neg (fun q => q ⟨k, hk, rfl⟩)] at hQ
      first
        | (subst_vars; exact hQ)
        | (subst_vars; rw [show stampG P k 5 = bI (alP P k) from rfl, q98] at hQ; exact hQ)
        | (unfold stampG at hQ; simp only [*, if_false] at hQ; exact hQ)
    · refine la_3_0 81 dX3_stamp_80 rfl ?_
      refine vg_X3_23 rfl 84 dX3_stamp_81 rfl ?_
      refine vg_X3_89 hb0 rfl 87 dX3_stamp_84 rfl ?_
      refine li_3_1 88 dX3_stamp_87 rfl ?_
      refine vlq_X1_kind hb0 hS.1 _ 89 dX3_stamp_88 rfl rfl hk ?_
      refine v_iret dX3_stamp_89 rfl ?_
      rw [show stampF P (nI k) x = stampG P k x from by unfold stampF; rw [kk_nI (by omega)]; exact ifP_neg (fun q => q ⟨k, hk, rfl⟩)] at hQ
      first
        | (subst_vars; exact hQ)
        | (subst_vars; rw [show stampG P k 5 = bI (alP P k) from rfl, q98] at hQ; exact hQ)
        | (unfold stampG at hQ; simp only [*, if_false] at hQ; exact hQ)
    · refine la_3_0 91 dX3_stamp_90 rfl ?_
      refine vg_X3_23 rfl 94 dX3_stamp_91 rfl ?_
      refine li_3_1 95 dX3_stamp_94 rfl ?_
      refine v_cVI1 98 dX3_stamp_95 rfl fvX1_span fiX1_span ml_X3_92 (seX1 hb0) rfl ⟨(Nat.le_of_ble_eq_true rfl), (Nat.le_of_ble_eq_true rfl)⟩ (Nat.le_of_ble_eq_true rfl) (Nat.le_of_ble_eq_true rfl) (c_X1_span hb0 hS.1 (by omega) ⟨_, rfl, ?_⟩) rfl
      refine v_iret dX3_stamp_98 rfl ?_
      rw [show stampF P (nI k) x = stampG P k x from by unfold stampF; rw [kk_nI (by omega)]; exact ifP_neg (fun q => q ⟨k, hk, rfl⟩)] at hQ
      first
        | (subst_vars; exact hQ)
        | (subst_vars; rw [show stampG P k 5 = bI (alP P k) from rfl, q98] at hQ; exact hQ)
        | (unfold stampG at hQ; simp only [*, if_false] at hQ; exact hQ)
    · refine la_3_0 100 dX3_stamp_99 rfl ?_
      refine vg_X3_23 rfl 103 dX3_stamp_100 rfl ?_
      refine li_3_1 104 dX3_stamp_103 rfl ?_
      refine v_cVI1 107 dX3_stamp_104 rfl fvX1_rate fiX1_rate ml_X3_96 (seX1 hb0) rfl ⟨(Nat.le_of_ble_eq_true rfl), (Nat.le_of_ble_eq_true rfl)⟩ (Nat.le_of_ble_eq_true rfl) (Nat.le_of_ble_eq_true rfl) (c_X1_rate hb0 hS.1 (by omega) ⟨_, rfl, ?_⟩) rfl
      refine v_iret dX3_stamp_107 rfl ?_
      rw [show stampF P (nI k) x = stampG P k x from by unfold stampF; rw [kk_nI (by omega)]; exact ifP_neg (fun q => q ⟨k, hk, rfl⟩)] at hQ
      first
        | (subst_vars; exact hQ)
        | (subst_vars; rw [show stampG P k 5 = bI (alP P k) from rfl, q98] at hQ; exact hQ)
        | (unfold stampG at hQ; simp only [*, if_false] at hQ; exact hQ)
    · refine la_3_0 109 dX3_stamp_108 rfl ?_
      refine vg_X3_23 rfl 112 dX3_stamp_109 rfl ?_
      refine li_3_1 113 dX3_stamp_112 rfl ?_
      refine v_cVI1 116 dX3_stamp_113 rfl fvX1_isAlive fiX1_isAlive ml_X3_99 (seX1 hb0) rfl ⟨(Nat.le_of_ble_eq_true rfl), (Nat.le_of_ble_eq_true rfl)⟩ (Nat.le_of_ble_eq_true rfl) (Nat.le_of_ble_eq_true rfl) (c_X1_isAlive hb0 hS.1 (by omega) (fun q113 => ⟨_, rfl, ?_⟩) (fun q113 => ⟨_, rfl, ?_⟩)) rfl
      · refine v_if_eq 123 119 dX3_stamp_116 rfl rfl (fun h => absurd h (by decide)) (fun _ => ?_)
        refine v_iconst (v := 1) 120 dX3_stamp_119 rfl ki_1 ?_
        refine v_goto 124 dX3_stamp_120 rfl ?_
        refine v_iret dX3_stamp_124 rfl ?_
        rw [show stampF P (nI k) x = stampG P k x from by unfold stampF; rw [kk_nI (by omega)]; exact ifP_neg (fun q => q ⟨k, hk, rfl⟩)] at hQ
        first
          | (subst_vars; exact hQ)
          | (subst_vars; rw [show stampG P k 5 = bI (alP P k) from rfl, q98] at hQ; exact hQ)
          | (unfold stampG at hQ; simp only [*, if_false] at hQ; exact hQ)
      · refine v_if_eq 123 119 dX3_stamp_116 rfl rfl (fun _ => ?_) (fun h => absurd rfl h)
        refine v_iconst (v := 0) 124 dX3_stamp_123 rfl ki_0 ?_
        refine v_iret dX3_stamp_124 rfl ?_
        rw [show stampF P (nI k) x = stampG P k x from by unfold stampF; rw [kk_nI (by omega)]; exact ifP_neg (fun q => q ⟨k, hk, rfl⟩)] at hQ
        first
          | (subst_vars; exact hQ)
          | (subst_vars; rw [show stampG P k 5 = bI (alP P k) from rfl, q98] at hQ; exact hQ)
          | (unfold stampG at hQ; simp only [*, if_false] at hQ; exact hQ)
    · refine la_3_0 126 dX3_stamp_125 rfl ?_
      refine vg_X3_23 rfl 129 dX3_stamp_126 rfl ?_
      refine vg_X3_102 hb0 rfl 132 dX3_stamp_129 rfl ?_
      refine li_3_1 133 dX3_stamp_132 rfl ?_
      refine vlq_X1_on hb0 hS.1 _ 134 dX3_stamp_133 rfl rfl hk ?_
      refine v_iret dX3_stamp_134 rfl ?_
      rw [show stampF P (nI k) x = stampG P k x from by unfold stampF; rw [kk_nI (by omega)]; exact ifP_neg (fun q => q ⟨k, hk, rfl⟩)] at hQ
      first
        | (subst_vars; exact hQ)
        | (subst_vars; rw [show stampG P k 5 = bI (alP P k) from rfl, q98] at hQ; exact hQ)
        | (unfold stampG at hQ; simp only [*, if_false] at hQ; exact hQ)
    · refine la_3_0 136 dX3_stamp_135 rfl ?_
      refine vg_X3_23 rfl 139 dX3_stamp_136 rfl ?_
      refine vg_X3_105 hb0 rfl 142 dX3_stamp_139 rfl ?_
      refine li_3_1 143 dX3_stamp_142 rfl ?_
      refine vlq_X1_joined hb0 hS.1 _ 144 dX3_stamp_143 rfl rfl hk ?_
      refine v_iret dX3_stamp_144 rfl ?_
      rw [show stampF P (nI k) x = stampG P k x from by unfold stampF; rw [kk_nI (by omega)]; exact ifP_neg (fun q => q ⟨k, hk, rfl⟩)] at hQ
      first
        | (subst_vars; exact hQ)
        | (subst_vars; rw [show stampG P k 5 = bI (alP P k) from rfl, q98] at hQ; exact hQ)
        | (unfold stampG at hQ; simp only [*, if_false] at hQ; exact hQ)
    · refine v_bipush (v := (-2)) 147 dX3_stamp_145 rfl kb_m2 ?_
      refine v_iret dX3_stamp_147 rfl ?_
      rw [show stampF P (nI k) x = stampG P k x from by unfold stampF; rw [kk_nI (by omega)]; exact ifP_neg (fun q => q ⟨k, hk, rfl⟩)] at hQ
      first
        | (subst_vars; exact hQ)
        | (subst_vars; rw [show stampG P k 5 = bI (alP P k) from rfl, q98] at hQ; exact hQ)
        | (unfold stampG at hQ; simp only [*, if_false] at hQ; exact hQ)
  · refine v_if_ne 13 11 dX3_stamp_8 rfl rfl (fun h => absurd rfl h) (fun _ => ?_)
    refine v_iconst (v := (-1)) 12 dX3_stamp_11 rfl ki_m1 ?_
    refine v_iret dX3_stamp_12 rfl ?_
    rw [show stampF P i x = -1 from ifP_pos q5] at hQ
    exact hQ
set_option maxHeartbeats 4000000 in
set_option maxRecDepth 100000 in
theorem c_X3_letter {w : Wd} {P : PT} {T : TT} {A : AT} {U : Nat → Bool} {K : Nat → PT} {N : NT} {z : Int64} (hS : cS w P T A U K N z) {i x : Int32} {Q : Option Value → Wd → Prop} (hQ : Q (some (.int (letterF P i x))) w) : V mX3_letter 0 [some (.ref 0), some (.int i), some (.int x)] [] w Q := by
  have b5 := hS.1.2.2.2.2.1
  have b4 := hS.1.2.2.2.2.2.1
  refine la_3_0 1 dX3_letter_0 rfl ?_
  refine vg_X3_23 rfl 4 dX3_letter_1 rfl ?_
  refine li_3_1 5 dX3_letter_4 rfl ?_
  refine v_cVI1 8 dX3_letter_5 rfl fvX1_hasLetter fiX1_hasLetter ml_X3_108 (seX1 hb0) rfl ⟨(Nat.le_of_ble_eq_true rfl), (Nat.le_of_ble_eq_true rfl)⟩ (Nat.le_of_ble_eq_true rfl) (Nat.le_of_ble_eq_true rfl) (c_X1_hasLetter hb0 hS.1 (fun q5 => ⟨_, rfl, ?_⟩) (fun q5 => ⟨_, rfl, ?_⟩)) rfl
  · obtain ⟨k, hk, rfl⟩ := q5
    refine v_if_ne 13 11 dX3_letter_8 rfl rfl (fun _ => ?_) (fun h => absurd h (by decide))
    refine li_3_2 14 dX3_letter_13 rfl ?_
    refine v_tab5 48 58 68 77 93 103 dX3_letter_14 rfl rfl rfl rfl rfl rfl (fun h14_0 => ?_) (fun h14_1 => ?_) (fun h14_2 => ?_) (fun h14_3 => ?_) (fun h14_4 => ?_) (fun n14_0 n14_1 n14_2 n14_3 n14_4 => ?_)
    · refine la_3_0 49 dX3_letter_48 rfl ?_
      refine vg_X3_23 rfl 52 dX3_letter_49 rfl ?_
      refine vg_X3_111 hb0 rfl 55 dX3_letter_52 rfl ?_
      refine li_3_1 56 dX3_letter_55 rfl ?_
      refine vlq_X1_left hb0 hS.1 _ 57 dX3_letter_56 rfl rfl hk ?_
      refine v_iret dX3_letter_57 rfl ?_
      rw [show letterF P (nI k) x = letterG P k x from by unfold letterF; rw [kk_nI (by omega)]; exact ifP_neg (fun q => q ⟨k, hk, rfl⟩)] at hQ
      first
        | (subst_vars; exact hQ)
        | (unfold letterG at hQ; simp only [*, if_false] at hQ; exact hQ)
    · refine la_3_0 59 dX3_letter_58 rfl ?_
      refine vg_X3_23 rfl 62 dX3_letter_59 rfl ?_
      refine vg_X3_114 hb0 rfl 65 dX3_letter_62 rfl ?_
      refine li_3_1 66 dX3_letter_65 rfl ?_
      refine vlq_X1_cost hb0 hS.1 _ 67 dX3_letter_66 rfl rfl hk ?_
      refine v_iret dX3_letter_67 rfl ?_
      rw [show letterF P (nI k) x = letterG P k x from by unfold letterF; rw [kk_nI (by omega)]; exact ifP_neg (fun q => q ⟨k, hk, rfl⟩)] at hQ
      first
        | (subst_vars; exact hQ)
        | (unfold letterG at hQ; simp only [*, if_false] at hQ; exact hQ)
    · refine la_3_0 69 dX3_letter_68 rfl ?_
      refine vg_X3_23 rfl 72 dX3_letter_69 rfl ?_
      refine li_3_1 73 dX3_letter_72 rfl ?_
      refine v_cVI1 76 dX3_letter_73 rfl fvX1_stuckBits fiX1_stuckBits ml_X3_117 (seX1 hb0) rfl ⟨(Nat.le_of_ble_eq_true rfl), (Nat.le_of_ble_eq_true rfl)⟩ (Nat.le_of_ble_eq_true rfl) (Nat.le_of_ble_eq_true rfl) (c_X1_stuckBits hb0 hS.1 ⟨_, rfl, ?_⟩) rfl
      refine v_iret dX3_letter_76 rfl ?_
      rw [show letterF P (nI k) x = letterG P k x from by unfold letterF; rw [kk_nI (by omega)]; exact ifP_neg (fun q => q ⟨k, hk, rfl⟩)] at hQ
      first
        | (subst_vars; exact hQ)
        | (unfold letterG at hQ; simp only [*, if_false] at hQ; exact hQ)
    · refine la_3_0 78 dX3_letter_77 rfl ?_
      refine vg_X3_23 rfl 81 dX3_letter_78 rfl ?_
      refine la_3_0 82 dX3_letter_81 rfl ?_
      refine vg_X3_23 rfl 85 dX3_letter_82 rfl ?_
      refine li_3_1 86 dX3_letter_85 rfl ?_
      refine v_cVI1 89 dX3_letter_86 rfl fvX1_stuckBits fiX1_stuckBits ml_X3_117 (seX1 hb0) rfl ⟨(Nat.le_of_ble_eq_true rfl), (Nat.le_of_ble_eq_true rfl)⟩ (Nat.le_of_ble_eq_true rfl) (Nat.le_of_ble_eq_true rfl) (c_X1_stuckBits hb0 hS.1 ⟨_, rfl, ?_⟩) rfl
      refine v_cVI1 92 dX3_letter_89 rfl fvX1_goodFor fiX1_goodFor ml_X3_120 (seX1 hb0) rfl ⟨(Nat.le_of_ble_eq_true rfl), (Nat.le_of_ble_eq_true rfl)⟩ (Nat.le_of_ble_eq_true rfl) (Nat.le_of_ble_eq_true rfl) (c_X1_goodFor hb0 hS.1 ⟨_, rfl, ?_⟩) rfl
      refine v_iret dX3_letter_92 rfl ?_
      rw [show letterF P (nI k) x = letterG P k x from by unfold letterF; rw [kk_nI (by omega)]; exact ifP_neg (fun q => q ⟨k, hk, rfl⟩)] at hQ
      first
        | (subst_vars; exact hQ)
        | (unfold letterG at hQ; simp only [*, if_false] at hQ; exact hQ)
    · refine la_3_0 94 dX3_letter_93 rfl ?_
      refine vg_X3_23 rfl 97 dX3_letter_94 rfl ?_
      refine vg_X3_123 hb0 rfl 100 dX3_letter_97 rfl ?_
      refine li_3_1 101 dX3_letter_100 rfl ?_
      refine vlq_X1_fate hb0 hS.1 _ 102 dX3_letter_101 rfl rfl hk ?_
      refine v_iret dX3_letter_102 rfl ?_
      rw [show letterF P (nI k) x = letterG P k x from by unfold letterF; rw [kk_nI (by omega)]; exact ifP_neg (fun q => q ⟨k, hk, rfl⟩)] at hQ
      first
        | (subst_vars; exact hQ)
        | (unfold letterG at hQ; simp only [*, if_false] at hQ; exact hQ)
    · refine v_bipush (v := (-2)) 105 dX3_letter_103 rfl kb_m2 ?_
      refine v_iret dX3_letter_105 rfl ?_
      rw [show letterF P (nI k) x = letterG P k x from by unfold letterF; rw [kk_nI (by omega)]; exact ifP_neg (fun q => q ⟨k, hk, rfl⟩)] at hQ
      first
        | (subst_vars; exact hQ)
        | (unfold letterG at hQ; simp only [*, if_false] at hQ; exact hQ)
  · refine v_if_ne 13 11 dX3_letter_8 rfl rfl (fun h => absurd rfl h) (fun _ => ?_)
    refine v_iconst (v := (-1)) 12 dX3_letter_11 rfl ki_m1 ?_
    refine v_iret dX3_letter_12 rfl ?_
    rw [show letterF P i x = -1 from ifP_pos q5] at hQ
    exact hQ
set_option maxHeartbeats 4000000 in
set_option maxRecDepth 100000 in
theorem c_X3_count {w : Wd} {P : PT} {T : TT} {A : AT} {U : Nat → Bool} {K : Nat → PT} {N : NT} {z : Int64} (hS : cS w P T A U K N z) (hz : P.1.2.2.2 = 0 ∨ P.1.2.2.2 = 1) {x : Int32} {Q : Option Value → Wd → Prop} (hQ : Q (some (.int (countF P T.1 A.1 N.1 x))) w) : V mX3_count 0 [some (.ref 0), some (.int x)] [] w Q := by
  have b5 := hS.1.2.2.2.2.1
  have b4 := hS.1.2.2.2.2.2.1
  refine li_2_1 1 dX3_count_0 rfl ?_
  refine v_tab11 60 65 73 81 89 105 113 121 130 139 144 149 dX3_count_1 rfl rfl rfl rfl rfl rfl rfl rfl rfl rfl rfl rfl (fun h1_0 => ?_) (fun h1_1 => ?_) (fun h1_2 => ?_) (fun h1_3 => ?_) (fun h1_4 => ?_) (fun h1_5 => ?_) (fun h1_6 => ?_) (fun h1_7 => ?_) (fun h1_8 => ?_) (fun h1_9 => ?_) (fun h1_10 => ?_) (fun n1_0 n1_1 n1_2 n1_3 n1_4 n1_5 n1_6 n1_7 n1_8 n1_9 n1_10 => ?_)
  · refine la_2_0 61 dX3_count_60 rfl ?_
    refine vg_X3_58 rfl 64 dX3_count_61 rfl ?_
    refine v_iret dX3_count_64 rfl ?_
    first
      | (subst_vars; exact hQ)
      | (subst_vars; rw [hS.2.1.1]; exact hQ)
      | (subst_vars; rw [hS.2.2.1.1]; exact hQ)
      | (subst_vars; rw [hS.2.2.2.2.2.1.1]; exact hQ)
      | (subst_vars; have e : P.1.2.2.2 = 0 := ‹_›; rw [show countF P T.1 A.1 N.1 4 = 0 from e] at hQ; exact hQ)
      | (subst_vars; have e : P.1.2.2.2 = 1 := hz.resolve_left ‹_›; rw [show countF P T.1 A.1 N.1 4 = 1 from e] at hQ; exact hQ)
      | (unfold countF at hQ; simp only [*, if_false] at hQ; exact hQ)
  · refine la_2_0 66 dX3_count_65 rfl ?_
    refine vg_X3_23 rfl 69 dX3_count_66 rfl ?_
    refine vgq_X3_73 hb0 hS.1 rfl 72 dX3_count_69 rfl ?_
    refine v_iret dX3_count_72 rfl ?_
    first
      | (subst_vars; exact hQ)
      | (subst_vars; rw [hS.2.1.1]; exact hQ)
      | (subst_vars; rw [hS.2.2.1.1]; exact hQ)
      | (subst_vars; rw [hS.2.2.2.2.2.1.1]; exact hQ)
      | (subst_vars; have e : P.1.2.2.2 = 0 := ‹_›; rw [show countF P T.1 A.1 N.1 4 = 0 from e] at hQ; exact hQ)
      | (subst_vars; have e : P.1.2.2.2 = 1 := hz.resolve_left ‹_›; rw [show countF P T.1 A.1 N.1 4 = 1 from e] at hQ; exact hQ)
      | (unfold countF at hQ; simp only [*, if_false] at hQ; exact hQ)
  · refine la_2_0 74 dX3_count_73 rfl ?_
    refine vg_X3_23 rfl 77 dX3_count_74 rfl ?_
    refine vgq_X3_76 hb0 hS.1 rfl 80 dX3_count_77 rfl ?_
    refine v_iret dX3_count_80 rfl ?_
    first
      | (subst_vars; exact hQ)
      | (subst_vars; rw [hS.2.1.1]; exact hQ)
      | (subst_vars; rw [hS.2.2.1.1]; exact hQ)
      | (subst_vars; rw [hS.2.2.2.2.2.1.1]; exact hQ)
      | (subst_vars; have e : P.1.2.2.2 = 0 := ‹_›; rw [show countF P T.1 A.1 N.1 4 = 0 from e] at hQ; exact hQ)
      | (subst_vars; have e : P.1.2.2.2 = 1 := hz.resolve_left ‹_›; rw [show countF P T.1 A.1 N.1 4 = 1 from e] at hQ; exact hQ)
      | (unfold countF at hQ; simp only [*, if_false] at hQ; exact hQ)
  · refine la_2_0 82 dX3_count_81 rfl ?_
    refine vg_X3_23 rfl 85 dX3_count_82 rfl ?_
    refine vgq_X3_234 hb0 hS.1 rfl 88 dX3_count_85 rfl ?_
    refine v_iret dX3_count_88 rfl ?_
    first
      | (subst_vars; exact hQ)
      | (subst_vars; rw [hS.2.1.1]; exact hQ)
      | (subst_vars; rw [hS.2.2.1.1]; exact hQ)
      | (subst_vars; rw [hS.2.2.2.2.2.1.1]; exact hQ)
      | (subst_vars; have e : P.1.2.2.2 = 0 := ‹_›; rw [show countF P T.1 A.1 N.1 4 = 0 from e] at hQ; exact hQ)
      | (subst_vars; have e : P.1.2.2.2 = 1 := hz.resolve_left ‹_›; rw [show countF P T.1 A.1 N.1 4 = 1 from e] at hQ; exact hQ)
      | (unfold countF at hQ; simp only [*, if_false] at hQ; exact hQ)
  · refine la_2_0 90 dX3_count_89 rfl ?_
    refine vg_X3_23 rfl 93 dX3_count_90 rfl ?_
    refine vgq_X3_161 hb0 hS.1 rfl 96 dX3_count_93 rfl ?_
    refine v_if_eq 103 99 dX3_count_96 rfl rfl (fun h96 => ?_) (fun h96 => ?_)
    · refine v_iconst (v := 0) 104 dX3_count_103 rfl ki_0 ?_
      refine v_iret dX3_count_104 rfl ?_
      first
        | (subst_vars; exact hQ)
        | (subst_vars; rw [hS.2.1.1]; exact hQ)
        | (subst_vars; rw [hS.2.2.1.1]; exact hQ)
        | (subst_vars; rw [hS.2.2.2.2.2.1.1]; exact hQ)
        | (subst_vars; have e : P.1.2.2.2 = 0 := ‹_›; rw [show countF P T.1 A.1 N.1 4 = 0 from e] at hQ; exact hQ)
        | (subst_vars; have e : P.1.2.2.2 = 1 := hz.resolve_left ‹_›; rw [show countF P T.1 A.1 N.1 4 = 1 from e] at hQ; exact hQ)
        | (unfold countF at hQ; simp only [*, if_false] at hQ; exact hQ)
    · refine v_iconst (v := 1) 100 dX3_count_99 rfl ki_1 ?_
      refine v_goto 104 dX3_count_100 rfl ?_
      refine v_iret dX3_count_104 rfl ?_
      first
        | (subst_vars; exact hQ)
        | (subst_vars; rw [hS.2.1.1]; exact hQ)
        | (subst_vars; rw [hS.2.2.1.1]; exact hQ)
        | (subst_vars; rw [hS.2.2.2.2.2.1.1]; exact hQ)
        | (subst_vars; have e : P.1.2.2.2 = 0 := ‹_›; rw [show countF P T.1 A.1 N.1 4 = 0 from e] at hQ; exact hQ)
        | (subst_vars; have e : P.1.2.2.2 = 1 := hz.resolve_left ‹_›; rw [show countF P T.1 A.1 N.1 4 = 1 from e] at hQ; exact hQ)
        | (unfold countF at hQ; simp only [*, if_false] at hQ; exact hQ)
  · refine la_2_0 106 dX3_count_105 rfl ?_
    refine vg_X3_23 rfl 109 dX3_count_106 rfl ?_
    refine v_cVI0 112 dX3_count_109 rfl fvX1_aliveBits fiX1_aliveBits ml_X3_132 (seX1 hb0) rfl ⟨(Nat.le_of_ble_eq_true rfl), (Nat.le_of_ble_eq_true rfl)⟩ (Nat.le_of_ble_eq_true rfl) (Nat.le_of_ble_eq_true rfl) (c_X1_aliveBits hb0 hS.1 ⟨_, rfl, ?_⟩) rfl
    refine v_iret dX3_count_112 rfl ?_
    first
      | (subst_vars; exact hQ)
      | (subst_vars; rw [hS.2.1.1]; exact hQ)
      | (subst_vars; rw [hS.2.2.1.1]; exact hQ)
      | (subst_vars; rw [hS.2.2.2.2.2.1.1]; exact hQ)
      | (subst_vars; have e : P.1.2.2.2 = 0 := ‹_›; rw [show countF P T.1 A.1 N.1 4 = 0 from e] at hQ; exact hQ)
      | (subst_vars; have e : P.1.2.2.2 = 1 := hz.resolve_left ‹_›; rw [show countF P T.1 A.1 N.1 4 = 1 from e] at hQ; exact hQ)
      | (unfold countF at hQ; simp only [*, if_false] at hQ; exact hQ)
  · refine la_2_0 114 dX3_count_113 rfl ?_
    refine vg_X3_23 rfl 117 dX3_count_114 rfl ?_
    refine v_cVI0 120 dX3_count_117 rfl fvX1_widowBits fiX1_widowBits ml_X3_237 (seX1 hb0) rfl ⟨(Nat.le_of_ble_eq_true rfl), (Nat.le_of_ble_eq_true rfl)⟩ (Nat.le_of_ble_eq_true rfl) (Nat.le_of_ble_eq_true rfl) (c_X1_widowBits hb0 hS.1 ⟨_, rfl, ?_⟩) rfl
    refine v_iret dX3_count_120 rfl ?_
    first
      | (subst_vars; exact hQ)
      | (subst_vars; rw [hS.2.1.1]; exact hQ)
      | (subst_vars; rw [hS.2.2.1.1]; exact hQ)
      | (subst_vars; rw [hS.2.2.2.2.2.1.1]; exact hQ)
      | (subst_vars; have e : P.1.2.2.2 = 0 := ‹_›; rw [show countF P T.1 A.1 N.1 4 = 0 from e] at hQ; exact hQ)
      | (subst_vars; have e : P.1.2.2.2 = 1 := hz.resolve_left ‹_›; rw [show countF P T.1 A.1 N.1 4 = 1 from e] at hQ; exact hQ)
      | (unfold countF at hQ; simp only [*, if_false] at hQ; exact hQ)
  · refine la_2_0 122 dX3_count_121 rfl ?_
    refine vg_X3_23 rfl 125 dX3_count_122 rfl ?_
    refine v_iconst (v := 2) 126 dX3_count_125 rfl ki_2 ?_
    refine v_cVI1 129 dX3_count_126 rfl fvX1_fateBits fiX1_fateBits ml_X3_240 (seX1 hb0) rfl ⟨(Nat.le_of_ble_eq_true rfl), (Nat.le_of_ble_eq_true rfl)⟩ (Nat.le_of_ble_eq_true rfl) (Nat.le_of_ble_eq_true rfl) (c_X1_fateBits hb0 hS.1 ⟨_, rfl, ?_⟩) rfl
    refine v_iret dX3_count_129 rfl ?_
    first
      | (subst_vars; exact hQ)
      | (subst_vars; rw [hS.2.1.1]; exact hQ)
      | (subst_vars; rw [hS.2.2.1.1]; exact hQ)
      | (subst_vars; rw [hS.2.2.2.2.2.1.1]; exact hQ)
      | (subst_vars; have e : P.1.2.2.2 = 0 := ‹_›; rw [show countF P T.1 A.1 N.1 4 = 0 from e] at hQ; exact hQ)
      | (subst_vars; have e : P.1.2.2.2 = 1 := hz.resolve_left ‹_›; rw [show countF P T.1 A.1 N.1 4 = 1 from e] at hQ; exact hQ)
      | (unfold countF at hQ; simp only [*, if_false] at hQ; exact hQ)
  · refine la_2_0 131 dX3_count_130 rfl ?_
    refine vg_X3_23 rfl 134 dX3_count_131 rfl ?_
    refine v_iconst (v := 3) 135 dX3_count_134 rfl ki_3 ?_
    refine v_cVI1 138 dX3_count_135 rfl fvX1_fateBits fiX1_fateBits ml_X3_240 (seX1 hb0) rfl ⟨(Nat.le_of_ble_eq_true rfl), (Nat.le_of_ble_eq_true rfl)⟩ (Nat.le_of_ble_eq_true rfl) (Nat.le_of_ble_eq_true rfl) (c_X1_fateBits hb0 hS.1 ⟨_, rfl, ?_⟩) rfl
    refine v_iret dX3_count_138 rfl ?_
    first
      | (subst_vars; exact hQ)
      | (subst_vars; rw [hS.2.1.1]; exact hQ)
      | (subst_vars; rw [hS.2.2.1.1]; exact hQ)
      | (subst_vars; rw [hS.2.2.2.2.2.1.1]; exact hQ)
      | (subst_vars; have e : P.1.2.2.2 = 0 := ‹_›; rw [show countF P T.1 A.1 N.1 4 = 0 from e] at hQ; exact hQ)
      | (subst_vars; have e : P.1.2.2.2 = 1 := hz.resolve_left ‹_›; rw [show countF P T.1 A.1 N.1 4 = 1 from e] at hQ; exact hQ)
      | (unfold countF at hQ; simp only [*, if_false] at hQ; exact hQ)
  · refine la_2_0 140 dX3_count_139 rfl ?_
    refine vg_X3_70 rfl 143 dX3_count_140 rfl ?_
    refine v_iret dX3_count_143 rfl ?_
    first
      | (subst_vars; exact hQ)
      | (subst_vars; rw [hS.2.1.1]; exact hQ)
      | (subst_vars; rw [hS.2.2.1.1]; exact hQ)
      | (subst_vars; rw [hS.2.2.2.2.2.1.1]; exact hQ)
      | (subst_vars; have e : P.1.2.2.2 = 0 := ‹_›; rw [show countF P T.1 A.1 N.1 4 = 0 from e] at hQ; exact hQ)
      | (subst_vars; have e : P.1.2.2.2 = 1 := hz.resolve_left ‹_›; rw [show countF P T.1 A.1 N.1 4 = 1 from e] at hQ; exact hQ)
      | (unfold countF at hQ; simp only [*, if_false] at hQ; exact hQ)
  · refine la_2_0 145 dX3_count_144 rfl ?_
    refine vg_X3_187 rfl 148 dX3_count_145 rfl ?_
    refine v_iret dX3_count_148 rfl ?_
    first
      | (subst_vars; exact hQ)
      | (subst_vars; rw [hS.2.1.1]; exact hQ)
      | (subst_vars; rw [hS.2.2.1.1]; exact hQ)
      | (subst_vars; rw [hS.2.2.2.2.2.1.1]; exact hQ)
      | (subst_vars; have e : P.1.2.2.2 = 0 := ‹_›; rw [show countF P T.1 A.1 N.1 4 = 0 from e] at hQ; exact hQ)
      | (subst_vars; have e : P.1.2.2.2 = 1 := hz.resolve_left ‹_›; rw [show countF P T.1 A.1 N.1 4 = 1 from e] at hQ; exact hQ)
      | (unfold countF at hQ; simp only [*, if_false] at hQ; exact hQ)
  · refine v_bipush (v := (-2)) 151 dX3_count_149 rfl kb_m2 ?_
    refine v_iret dX3_count_151 rfl ?_
    first
      | (subst_vars; exact hQ)
      | (subst_vars; rw [hS.2.1.1]; exact hQ)
      | (subst_vars; rw [hS.2.2.1.1]; exact hQ)
      | (subst_vars; rw [hS.2.2.2.2.2.1.1]; exact hQ)
      | (subst_vars; have e : P.1.2.2.2 = 0 := ‹_›; rw [show countF P T.1 A.1 N.1 4 = 0 from e] at hQ; exact hQ)
      | (subst_vars; have e : P.1.2.2.2 = 1 := hz.resolve_left ‹_›; rw [show countF P T.1 A.1 N.1 4 = 1 from e] at hQ; exact hQ)
      | (unfold countF at hQ; simp only [*, if_false] at hQ; exact hQ)

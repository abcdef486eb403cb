theorem chkD_at {b : Nat} : ∀ {n d : Nat}, chkD b n = true → b < d → d ≤ n → cN b d 127 = pcN 7 (64 + b) (64 + d) 0
  | 0, d, _, h0, h1 => by omega
  | n + 1, d, q, h0, h1 => by
    unfold chkD at q
    rw [Bool.and_eq_true, Bool.or_eq_true] at q
    by_cases c : d = n + 1
    · subst c
      rcases q.1 with q1 | q1
      · have := Nat.ble_eq.mp q1; omega
      · exact Nat.eq_of_beq_eq_true q1
    · exact chkD_at q.2 h0 (by omega)
theorem chkB_at : ∀ {n b : Nat}, chkB n = true → b < n → chkD b 64 = true
  | 0, b, _, h => by omega
  | n + 1, b, q, h => by
    unfold chkB at q
    rw [Bool.and_eq_true] at q
    by_cases c : b = n
    · rw [c]; exact q.1
    · exact chkB_at q.2 (by omega)
theorem pcs_eq {b d : Int} (h0 : 0 ≤ b) (h1 : b < d) (h2 : d ≤ 64) : sm (fun z => if ofP (z + 1) b d then 1 else 0) 127 = pcs b d := by
  obtain ⟨m, rfl⟩ : ∃ m : Nat, b = m := ⟨b.toNat, by omega⟩
  obtain ⟨n, rfl⟩ : ∃ n : Nat, d = n := ⟨d.toNat, by omega⟩
  rw [cN_sm m n 127 (by decide), chkD_at (chkB_at chk_all (by omega)) (by omega) (by omega), ← pcN_eq]
  unfold pcs; congr 1
theorem pcs_bd {b d : Int} (h0 : 0 ≤ b) (h1 : b < d) (h2 : d ≤ 64) : 0 ≤ pcs b d ∧ pcs b d ≤ 127 := by
  rw [← pcs_eq h0 h1 h2]
  have q := sm_bd (g := fun z => if ofP (z + 1) b d then 1 else 0) (a := 0) (b := 1) (by decide) (by decide) (n := 127) (fun z _ _ => by
    by_cases hc : ofP (z + 1) b d
    · simp only [if_pos hc]; omega
    · simp only [if_neg hc]; omega)
  omega
theorem amx_1 {g : Int → Int} {k b : Int} (hk : k = 1) (hb : b = 0) : Amx g k b := by
  subst hk; subst hb
  exact ⟨by decide, by decide, fun h h0 h1 => by rw [show h = 0 by omega]; exact Int.le_refl _, fun h h0 h1 => by omega⟩
def cntA (f : Nat → Int) (n h : Int) : Int := sm (fun z => if al f z h then 1 else 0) n.toNat
def worA (f : Nat → Int) (n h : Int) : Int := sm (fun z => if al f z h ∧ 0 ≤ nO f z ∧ nO f z ≤ 999 then wO f z else 0) n.toNat
abbrev kX8_firstHour : Kd := (cX8_firstHour, .code yX8_firstHour cX8_firstHour 2 (some .int) :: wsL_law0, rmL 1, RX8, (some .int), 2)
theorem ct_X8_firstHour : Ct kX8_firstHour yX8_firstHour (fun a hi Q => ∃ p : Int, a = [AI p] ∧ (1 ≤ p ∧ p ≤ 127) ∧ ∀ v : Int, (v = fH p) → Q (AI v) hi) := by
  refine Ct.of (ws' := _) (by decide +kernel) rfl rfl ?_
  intro a hi Q hT
  obtain ⟨p, rfl, hpre, hQ⟩ := hT
  refine ⟨Nat.le_of_ble_eq_true rfl, ?_⟩
  show Z kX8_firstHour Q 0 [(0, AI p)] [] hi
  refine z_iload_n (pc := 0) dX8_firstHour_0 rfl 0 rfl ?_
  refine z_istore_n (pc := 1) (lv' := [(1, AI p), (0, AI p)]) dX8_firstHour_1 rfl (by decide) rfl ?_
  have J2 : ∀ (N : Nat) (q : Int), (1 ≤ q ∧ q ≤ 127) → (FhI p q) → ((128 - q).toNat) < N → Z kX8_firstHour Q 2 [(1, AI q), (0, AI p)] [] hi := by
    intro N
    induction N with
    | zero => intro q _ _ _; exact absurd (by assumption) (Nat.not_lt_zero _)
    | succ N ih2 =>
      intro q i0 i1 hm2
      refine z_iload_n (pc := 2) dX8_firstHour_2 rfl 0 rfl ?_
      refine z_bipush (pc := 3) (v := 64) dX8_firstHour_3 (by decide +kernel) ?_
      refine z_icmp_ge (pc := 5) (tgt := 15) dX8_firstHour_5 (by decide) ⟨by omega, by omega⟩ ⟨by decide, by decide⟩ (fun c1 => ?_) (fun c1 => ?_)
      · refine z_iload_n (pc := 15) dX8_firstHour_15 rfl 0 rfl ?_
        refine z_bipush (pc := 16) (v := 64) dX8_firstHour_16 (by decide +kernel) ?_
        refine z_isub (pc := 18) dX8_firstHour_18 (fun v2 ev2 => ?_)
        refine z_iret (pc := 19) rfl dX8_firstHour_19 ?_
        exact hQ v2 (fh_out i1 (by omega) (by omega))
      · refine z_iload_n (pc := 8) dX8_firstHour_8 rfl 0 rfl ?_
        refine z_iconst (pc := 9) (v := 2) dX8_firstHour_9 rfl ?_
        refine z_imul (pc := 10) dX8_firstHour_10 (fun v3 ev3 => ?_)
        refine z_istore_n (pc := 11) (lv' := [(1, AI v3), (0, AI p)]) dX8_firstHour_11 rfl (by decide) rfl ?_
        refine z_goto (pc := 12) (tgt := 2) dX8_firstHour_12 (by decide) ?_
        exact ih2 v3 (by omega) (fh_step i1 (by omega) (by omega)) (by omega)
  exact J2 _ p (by omega) (fh_0 rfl (by omega)) (Nat.lt_succ_self _)

abbrev kX8_hoursIn : Kd := (cX8_hoursIn, .code yX8_hoursIn cX8_hoursIn 3 (some .int) :: wsL_law0, rmL 1, RX8, (some .int), 3)
theorem ct_X8_hoursIn : Ct kX8_hoursIn yX8_hoursIn (fun a hi Q => ∃ p : Int, a = [AI p] ∧ (1 ≤ p ∧ p ≤ 127) ∧ ∀ v : Int, (v = eH p - fH p) → Q (AI v) hi) := by
  refine Ct.of (ws' := _) (by decide +kernel) rfl rfl ?_
  intro a hi Q hT
  obtain ⟨p, rfl, hpre, hQ⟩ := hT
  refine ⟨Nat.le_of_ble_eq_true rfl, ?_⟩
  show Z kX8_hoursIn Q 0 [(0, AI p)] [] hi
  refine z_bipush (pc := 0) (v := 64) dX8_hoursIn_0 (by decide +kernel) ?_
  refine z_istore_n (pc := 2) (lv' := [(1, AI 64), (0, AI p)]) dX8_hoursIn_2 rfl (by decide) rfl ?_
  refine z_iload_n (pc := 3) dX8_hoursIn_3 rfl 1 rfl ?_
  refine z_istore_n (pc := 4) (lv' := [(2, AI p), (1, AI 64), (0, AI p)]) dX8_hoursIn_4 rfl (by decide) rfl ?_
  have J5 : ∀ (N : Nat) (q n : Int), ((1 ≤ q ∧ q ≤ 127) ∧ 0 ≤ n ∧ n ≤ 64) → (HiI p q n) → (q.toNat) < N → Z kX8_hoursIn Q 5 [(2, AI q), (1, AI n), (0, AI p)] [] hi := by
    intro N
    induction N with
    | zero => intro q n _ _ _; exact absurd (by assumption) (Nat.not_lt_zero _)
    | succ N ih5 =>
      intro q n i0 i1 hm5
      refine z_iload_n (pc := 5) dX8_hoursIn_5 rfl 0 rfl ?_
      refine z_iconst (pc := 6) (v := 1) dX8_hoursIn_6 rfl ?_
      refine z_icmp_le (pc := 7) (tgt := 21) dX8_hoursIn_7 (by decide) ⟨by omega, by omega⟩ ⟨by decide, by decide⟩ (fun c1 => ?_) (fun c1 => ?_)
      · refine z_iload_n (pc := 21) dX8_hoursIn_21 rfl 1 rfl ?_
        refine z_iret (pc := 22) rfl dX8_hoursIn_22 ?_
        exact hQ n (hi_out i1 (by omega))
      · refine z_iload_n (pc := 10) dX8_hoursIn_10 rfl 1 rfl ?_
        refine z_iconst (pc := 11) (v := 2) dX8_hoursIn_11 rfl ?_
        refine z_idiv (pc := 12) dX8_hoursIn_12 ⟨by omega, by omega⟩ ⟨by decide, by decide⟩ (by omega) (fun v2 ev2 => ?_)
        refine z_istore_n (pc := 13) (lv' := [(1, AI v2), (2, AI q), (0, AI p)]) dX8_hoursIn_13 rfl (by decide) rfl ?_
        refine z_iload_n (pc := 14) dX8_hoursIn_14 rfl 1 rfl ?_
        refine z_iconst (pc := 15) (v := 2) dX8_hoursIn_15 rfl ?_
        refine z_idiv (pc := 16) dX8_hoursIn_16 ⟨by omega, by omega⟩ ⟨by decide, by decide⟩ (by omega) (fun v3 ev3 => ?_)
        refine z_istore_n (pc := 17) (lv' := [(2, AI v3), (1, AI v2), (0, AI p)]) dX8_hoursIn_17 rfl (by decide) rfl ?_
        refine z_goto (pc := 18) (tgt := 5) dX8_hoursIn_18 (by decide) ?_
        exact ih5 v3 v2 (by omega) (hi_step i1 (by omega) (by omega) (by omega)) (by omega)
  exact J5 _ p 64 (by omega) (hi_0 rfl rfl hpre) (Nat.lt_succ_self _)

abbrev kX8_isWithin : Kd := (cX8_isWithin, .code yX8_isWithin cX8_isWithin 4 (some .boolean) :: wsL_law0, rmL 3, RX8, (some .boolean), 4)
theorem ct_X8_isWithin : Ct kX8_isWithin yX8_isWithin (fun a hi Q => ∃ p : Int, ∃ k : Int, a = [AR 40, AI p, AI k] ∧ (RI (hi 40) (hi 40 0) ∧ (1 ≤ p ∧ p ≤ 127) ∧ (0 ≤ k ∧ k < hi 40 0)) ∧ ∀ v : Int, ((v = 1 ∧ inP p (bO (hi 40) k) (dO (hi 40) k)) ∨ (v = 0 ∧ ¬ inP p (bO (hi 40) k) (dO (hi 40) k))) → Q (AI v) hi) := by
  refine Ct.of (ws' := _) (by decide +kernel) rfl rfl ?_
  intro a hi Q hT
  obtain ⟨p, k, rfl, hpre, hQ⟩ := hT
  refine ⟨Nat.le_of_ble_eq_true rfl, ?_⟩
  show Z kX8_isWithin Q 0 [(0, AR 40), (1, AI p), (2, AI k)] [] hi
  refine z_iload_n (pc := 0) dX8_isWithin_0 rfl 1 rfl ?_
  refine z_callS (pc := 1) (kc := kX8_firstHour) (n := 1) (As := [AI p]) (stk := []) ct_X8_firstHour (gdS rfl rfl (iw40 _ (List.mem_of_getElem? (i := 10) rfl)) (iw40 _ (List.mem_of_getElem? (i := 11) rfl)) (iw1 _ (List.mem_of_getElem? (i := 5) rfl)) (iw40 _ (List.mem_of_getElem? (i := 12) rfl))) rfl ⟨rfl, rfl⟩ (by decide +kernel) ⟨by decide, by decide⟩ dX8_isWithin_1 rfl rfl (Nat.le_of_ble_eq_true rfl) ?_
  refine ⟨_, rfl, hpre.2.1, fun v1 ev1 => ?_⟩
  have bp := fH_bd hpre.2.1
  have rk := hpre.1.2.1 k (by omega) (by omega)
  have n0 := hpre.1.1
  refine z_istore_n (pc := 4) (lv' := [(3, AI v1), (0, AR 40), (1, AI p), (2, AI k)]) dX8_isWithin_4 rfl (by decide) rfl ?_
  refine z_aload_n (pc := 5) (x := 40) dX8_isWithin_5 rfl 1 rfl ?_
  refine z_iload_n (pc := 6) dX8_isWithin_6 rfl 3 rfl ?_
  refine z_iconst (pc := 7) (v := 1) dX8_isWithin_7 rfl ?_
  refine z_callV (pc := 8) (kc := kX8_its) (n := 2) (pl := 39) (ci := 7) (C := RX8) (As := [AI k, AI 1]) (stk := []) ct_X8_its (gdV rfl rfl (iw13 _ (List.mem_of_getElem? (i := 0) rfl)) (iw13 _ (List.mem_of_getElem? (i := 1) rfl)) (iw13 _ (List.mem_of_getElem? (i := 2) rfl)) (iw1 _ (List.mem_of_getElem? (i := 5) rfl)) (iw13 _ (List.mem_of_getElem? (i := 3) rfl))) rfl ⟨rfl, rfl⟩ (by decide +kernel) ⟨by decide, by decide⟩ (by decide) rfl rfl dX8_isWithin_8 rfl rfl (Nat.le_of_ble_eq_true rfl) ?_
  refine ⟨_, _, rfl, by omega, fun v2 ev2 => ?_⟩
  replace ev2 : v2 = bO (hi 40) k ∧ inR v2 := ev2
  refine z_iload_n (pc := 11) dX8_isWithin_11 rfl 0 rfl ?_
  refine z_icmp_gt (pc := 12) (tgt := 34) dX8_isWithin_12 (by decide) ⟨by omega, by omega⟩ ⟨by omega, by omega⟩ (fun c3 => ?_) (fun c3 => ?_)
  · refine z_iconst (pc := 34) (v := 0) dX8_isWithin_34 rfl ?_
    refine z_zret (pc := 35) rfl (by decide) dX8_isWithin_35 ?_
    exact hQ 0 (by omega)
  · refine z_iload_n (pc := 15) dX8_isWithin_15 rfl 0 rfl ?_
    refine z_iload_n (pc := 16) dX8_isWithin_16 rfl 2 rfl ?_
    refine z_callS (pc := 17) (kc := kX8_hoursIn) (n := 1) (As := [AI p]) (stk := [AI v1]) ct_X8_hoursIn (gdS rfl rfl (iw40 _ (List.mem_of_getElem? (i := 13) rfl)) (iw40 _ (List.mem_of_getElem? (i := 14) rfl)) (iw1 _ (List.mem_of_getElem? (i := 5) rfl)) (iw40 _ (List.mem_of_getElem? (i := 15) rfl))) rfl ⟨rfl, rfl⟩ (by decide +kernel) ⟨by decide, by decide⟩ dX8_isWithin_17 rfl rfl (Nat.le_of_ble_eq_true rfl) ?_
    refine ⟨_, rfl, hpre.2.1, fun v4 ev4 => ?_⟩
    refine z_iadd (pc := 20) dX8_isWithin_20 (fun v5 ev5 => ?_)
    refine z_aload_n (pc := 21) (x := 40) dX8_isWithin_21 rfl 1 rfl ?_
    refine z_iload_n (pc := 22) dX8_isWithin_22 rfl 3 rfl ?_
    refine z_iconst (pc := 23) (v := 2) dX8_isWithin_23 rfl ?_
    refine z_callV (pc := 24) (kc := kX8_its) (n := 2) (pl := 39) (ci := 7) (C := RX8) (As := [AI k, AI 2]) (stk := [AI v5]) ct_X8_its (gdV rfl rfl (iw13 _ (List.mem_of_getElem? (i := 0) rfl)) (iw13 _ (List.mem_of_getElem? (i := 1) rfl)) (iw13 _ (List.mem_of_getElem? (i := 2) rfl)) (iw1 _ (List.mem_of_getElem? (i := 5) rfl)) (iw13 _ (List.mem_of_getElem? (i := 3) rfl))) rfl ⟨rfl, rfl⟩ (by decide +kernel) ⟨by decide, by decide⟩ (by decide) rfl rfl dX8_isWithin_24 rfl rfl (Nat.le_of_ble_eq_true rfl) ?_
    refine ⟨_, _, rfl, by omega, fun v6 ev6 => ?_⟩
    replace ev6 : v6 = dO (hi 40) k ∧ inR v6 := ev6
    refine z_icmp_gt (pc := 27) (tgt := 34) dX8_isWithin_27 (by decide) ⟨by omega, by omega⟩ ⟨by omega, by omega⟩ (fun c7 => ?_) (fun c7 => ?_)
    · refine z_iconst (pc := 34) (v := 0) dX8_isWithin_34 rfl ?_
      refine z_zret (pc := 35) rfl (by decide) dX8_isWithin_35 ?_
      exact hQ 0 (by omega)
    · refine z_iconst (pc := 30) (v := 1) dX8_isWithin_30 rfl ?_
      refine z_goto (pc := 31) (tgt := 35) dX8_isWithin_31 (by decide) ?_
      refine z_zret (pc := 35) rfl (by decide) dX8_isWithin_35 ?_
      exact hQ 1 (by omega)

abbrev kX8_isOf : Kd := (cX8_isOf, .code yX8_isOf cX8_isOf 3 (some .boolean) :: wsL_law0, rmL 4, RX8, (some .boolean), 3)
theorem ct_X8_isOf : Ct kX8_isOf yX8_isOf (fun a hi Q => ∃ p : Int, ∃ k : Int, a = [AR 40, AI p, AI k] ∧ (RI (hi 40) (hi 40 0) ∧ (1 ≤ p ∧ p ≤ 127) ∧ (0 ≤ k ∧ k < hi 40 0)) ∧ ∀ v : Int, ((v = 1 ∧ ofP p (bO (hi 40) k) (dO (hi 40) k)) ∨ (v = 0 ∧ ¬ ofP p (bO (hi 40) k) (dO (hi 40) k))) → Q (AI v) hi) := by
  refine Ct.of (ws' := _) (by decide +kernel) rfl rfl ?_
  intro a hi Q hT
  obtain ⟨p, k, rfl, hpre, hQ⟩ := hT
  refine ⟨Nat.le_of_ble_eq_true rfl, ?_⟩
  show Z kX8_isOf Q 0 [(0, AR 40), (1, AI p), (2, AI k)] [] hi
  refine z_aload_n (pc := 0) (x := 40) dX8_isOf_0 rfl 0 rfl ?_
  refine z_iload_n (pc := 1) dX8_isOf_1 rfl 1 rfl ?_
  refine z_iload_n (pc := 2) dX8_isOf_2 rfl 2 rfl ?_
  refine z_callV (pc := 3) (kc := kX8_isWithin) (n := 2) (pl := 39) (ci := 7) (C := RX8) (As := [AI p, AI k]) (stk := []) ct_X8_isWithin (gdV rfl rfl (iw40 _ (List.mem_of_getElem? (i := 6) rfl)) (iw40 _ (List.mem_of_getElem? (i := 7) rfl)) (iw40 _ (List.mem_of_getElem? (i := 8) rfl)) (iw1 _ (List.mem_of_getElem? (i := 5) rfl)) (iw40 _ (List.mem_of_getElem? (i := 9) rfl))) rfl ⟨rfl, rfl⟩ (by decide +kernel) ⟨by decide, by decide⟩ (by decide) rfl rfl dX8_isOf_3 rfl rfl (Nat.le_of_ble_eq_true rfl) ?_
  refine ⟨_, _, rfl, hpre, fun v1 ev1 => ?_⟩
  refine z_if_eq (pc := 6) (tgt := 29) dX8_isOf_6 (by decide) ⟨by omega, by omega⟩ (fun c2 => ?_) (fun c2 => ?_)
  · refine z_iconst (pc := 29) (v := 0) dX8_isOf_29 rfl ?_
    refine z_zret (pc := 30) rfl (by decide) dX8_isOf_30 ?_
    exact hQ 0 (by omega)
  · refine z_iload_n (pc := 9) dX8_isOf_9 rfl 1 rfl ?_
    refine z_iconst (pc := 10) (v := 1) dX8_isOf_10 rfl ?_
    refine z_icmp_eq (pc := 11) (tgt := 25) dX8_isOf_11 (by decide) ⟨by omega, by omega⟩ ⟨by decide, by decide⟩ (fun c3 => ?_) (fun c3 => ?_)
    · refine z_iconst (pc := 25) (v := 1) dX8_isOf_25 rfl ?_
      refine z_goto (pc := 26) (tgt := 30) dX8_isOf_26 (by decide) ?_
      refine z_zret (pc := 30) rfl (by decide) dX8_isOf_30 ?_
      exact hQ 1 (by omega)
    · refine z_aload_n (pc := 14) (x := 40) dX8_isOf_14 rfl 0 rfl ?_
      refine z_iload_n (pc := 15) dX8_isOf_15 rfl 1 rfl ?_
      refine z_iconst (pc := 16) (v := 2) dX8_isOf_16 rfl ?_
      refine z_idiv (pc := 17) dX8_isOf_17 ⟨by omega, by omega⟩ ⟨by decide, by decide⟩ (by omega) (fun v4 ev4 => ?_)
      refine z_iload_n (pc := 18) dX8_isOf_18 rfl 2 rfl ?_
      refine z_callV (pc := 19) (kc := kX8_isWithin) (n := 2) (pl := 39) (ci := 7) (C := RX8) (As := [AI v4, AI k]) (stk := []) ct_X8_isWithin (gdV rfl rfl (iw40 _ (List.mem_of_getElem? (i := 6) rfl)) (iw40 _ (List.mem_of_getElem? (i := 7) rfl)) (iw40 _ (List.mem_of_getElem? (i := 8) rfl)) (iw1 _ (List.mem_of_getElem? (i := 5) rfl)) (iw40 _ (List.mem_of_getElem? (i := 9) rfl))) rfl ⟨rfl, rfl⟩ (by decide +kernel) ⟨by decide, by decide⟩ (by decide) rfl rfl dX8_isOf_19 rfl rfl (Nat.le_of_ble_eq_true rfl) ?_
      refine ⟨_, _, rfl, ⟨hpre.1, by omega, hpre.2.2⟩, fun v5 ev5 => ?_⟩
      rw [show v4 = p / 2 by omega] at ev5
      refine z_if_ne (pc := 22) (tgt := 29) dX8_isOf_22 (by decide) ⟨by omega, by omega⟩ (fun c6 => ?_) (fun c6 => ?_)
      · refine z_iconst (pc := 29) (v := 0) dX8_isOf_29 rfl ?_
        refine z_zret (pc := 30) rfl (by decide) dX8_isOf_30 ?_
        exact hQ 0 (by omega)
      · refine z_iconst (pc := 25) (v := 1) dX8_isOf_25 rfl ?_
        refine z_goto (pc := 26) (tgt := 30) dX8_isOf_26 (by decide) ?_
        refine z_zret (pc := 30) rfl (by decide) dX8_isOf_30 ?_
        exact hQ 1 (by omega)

abbrev kX8_piecesOf : Kd := (cX8_piecesOf, .code yX8_piecesOf cX8_piecesOf 4 (some .int) :: wsL_law0, rmL 5, RX8, (some .int), 4)
theorem ct_X8_piecesOf : Ct kX8_piecesOf yX8_piecesOf (fun a hi Q => ∃ k : Int, a = [AR 40, AI k] ∧ (RI (hi 40) (hi 40 0) ∧ (0 ≤ k ∧ k < hi 40 0)) ∧ ∀ v : Int, (v = pcs (bO (hi 40) k) (dO (hi 40) k) ∧ 0 ≤ v ∧ v ≤ 127) → Q (AI v) hi) := by
  refine Ct.of (ws' := _) (by decide +kernel) rfl rfl ?_
  intro a hi Q hT
  obtain ⟨k, rfl, hpre, hQ⟩ := hT
  refine ⟨Nat.le_of_ble_eq_true rfl, ?_⟩
  show Z kX8_piecesOf Q 0 [(0, AR 40), (1, AI k)] [] hi
  refine z_iconst (pc := 0) (v := 0) dX8_piecesOf_0 rfl ?_
  refine z_istore_n (pc := 1) (lv' := [(2, AI 0), (0, AR 40), (1, AI k)]) dX8_piecesOf_1 rfl (by decide) rfl ?_
  refine z_iconst (pc := 2) (v := 1) dX8_piecesOf_2 rfl ?_
  refine z_istore_n (pc := 3) (lv' := [(3, AI 1), (2, AI 0), (0, AR 40), (1, AI k)]) dX8_piecesOf_3 rfl (by decide) rfl ?_
  have J4 : ∀ (N : Nat) (p acc : Int), (1 ≤ p ∧ p ≤ 128) → (acc = sm (fun z => if ofP (z + 1) (bO (hi 40) k) (dO (hi 40) k) then 1 else 0) (p - 1).toNat) → ((128 - p).toNat) < N → Z kX8_piecesOf Q 4 [(3, AI p), (2, AI acc), (0, AR 40), (1, AI k)] [] hi := by
    intro N
    induction N with
    | zero => intro p acc _ _ _; exact absurd (by assumption) (Nat.not_lt_zero _)
    | succ N ih4 =>
      intro p acc i0 i1 hm4
      refine z_iload_n (pc := 4) dX8_piecesOf_4 rfl 0 rfl ?_
      refine z_sipush (pc := 5) (v := 128) dX8_piecesOf_5 (by decide +kernel) ?_
      refine z_icmp_ge (pc := 8) (tgt := 34) dX8_piecesOf_8 (by decide) ⟨by omega, by omega⟩ ⟨by decide, by decide⟩ (fun c1 => ?_) (fun c1 => ?_)
      · refine z_iload_n (pc := 34) dX8_piecesOf_34 rfl 1 rfl ?_
        refine z_iret (pc := 35) rfl dX8_piecesOf_35 ?_
        exact hQ acc (by have rk := hpre.1.2.1 k hpre.2.1 hpre.2.2; have q := pcs_eq rk.2.1.1 rk.2.1.2.1 rk.2.1.2.2; have q2 := pcs_bd rk.2.1.1 rk.2.1.2.1 rk.2.1.2.2; rw [i1, show (p - 1).toNat = 127 by omega, q]; exact ⟨rfl, q2⟩)
      · refine z_iload_n (pc := 11) dX8_piecesOf_11 rfl 1 rfl ?_
        refine z_aload_n (pc := 12) (x := 40) dX8_piecesOf_12 rfl 2 rfl ?_
        refine z_iload_n (pc := 13) dX8_piecesOf_13 rfl 0 rfl ?_
        refine z_iload_n (pc := 14) dX8_piecesOf_14 rfl 3 rfl ?_
        refine z_callV (pc := 15) (kc := kX8_isOf) (n := 2) (pl := 39) (ci := 7) (C := RX8) (As := [AI p, AI k]) (stk := [AI acc]) ct_X8_isOf (gdV rfl rfl (iw40 _ (List.mem_of_getElem? (i := 2) rfl)) (iw40 _ (List.mem_of_getElem? (i := 3) rfl)) (iw40 _ (List.mem_of_getElem? (i := 4) rfl)) (iw1 _ (List.mem_of_getElem? (i := 5) rfl)) (iw40 _ (List.mem_of_getElem? (i := 5) rfl))) rfl ⟨rfl, rfl⟩ (by decide +kernel) ⟨by decide, by decide⟩ (by decide) rfl rfl dX8_piecesOf_15 rfl rfl (Nat.le_of_ble_eq_true rfl) ?_
        refine ⟨_, _, rfl, ⟨hpre.1, by omega, hpre.2⟩, fun v2 ev2 => ?_⟩
        refine z_if_eq (pc := 18) (tgt := 25) dX8_piecesOf_18 (by decide) ⟨by omega, by omega⟩ (fun c3 => ?_) (fun c3 => ?_)
        · refine z_iconst (pc := 25) (v := 0) dX8_piecesOf_25 rfl ?_
          refine z_iadd (pc := 26) dX8_piecesOf_26 (fun v4 ev4 => ?_)
          refine z_istore_n (pc := 27) (lv' := [(2, AI v4), (3, AI p), (0, AR 40), (1, AI k)]) dX8_piecesOf_27 rfl (by decide) rfl ?_
          refine z_iinc (pc := 28) (j := 1) (w := fun q => (3, AI q) :: [(2, AI v4), (0, AR 40), (1, AI k)]) dX8_piecesOf_28 rfl (by decide) (fun _ => rfl) (fun v5 ev5 => ?_)
          refine z_goto (pc := 31) (tgt := 4) dX8_piecesOf_31 (by decide) ?_
          exact ih4 v5 v4 (by omega) (sm_step (k := p - 1) (by omega) (by omega) i1 (by rw [show p - 1 + 1 = p by omega]; first | omega | (split <;> omega))) (by omega)
        · refine z_iconst (pc := 21) (v := 1) dX8_piecesOf_21 rfl ?_
          refine z_goto (pc := 22) (tgt := 26) dX8_piecesOf_22 (by decide) ?_
          refine z_iadd (pc := 26) dX8_piecesOf_26 (fun v6 ev6 => ?_)
          refine z_istore_n (pc := 27) (lv' := [(2, AI v6), (3, AI p), (0, AR 40), (1, AI k)]) dX8_piecesOf_27 rfl (by decide) rfl ?_
          refine z_iinc (pc := 28) (j := 1) (w := fun q => (3, AI q) :: [(2, AI v6), (0, AR 40), (1, AI k)]) dX8_piecesOf_28 rfl (by decide) (fun _ => rfl) (fun v7 ev7 => ?_)
          refine z_goto (pc := 31) (tgt := 4) dX8_piecesOf_31 (by decide) ?_
          exact ih4 v7 v6 (by omega) (sm_step (k := p - 1) (by omega) (by omega) i1 (by rw [show p - 1 + 1 = p by omega]; first | omega | (split <;> omega))) (by omega)
  exact J4 _ 1 0 (by omega) (sm_0 (k := 1 - 1) rfl rfl) (Nat.lt_succ_self _)

abbrev kX8_onOf : Kd := (cX8_onOf, .code yX8_onOf cX8_onOf 5 (some .int) :: wsL_law0, rmL 5, RX8, (some .int), 5)
theorem ct_X8_onOf : Ct kX8_onOf yX8_onOf (fun a hi Q => ∃ p : Int, ∃ k : Int, a = [AR 40, AI p, AI k] ∧ (RI (hi 40) (hi 40 0) ∧ (1 ≤ p ∧ p ≤ 127) ∧ inR k ∧ -1 ≤ k) ∧ ∀ v : Int, ((k = -1 ∧ v = sm (fun z => if ofP p (bO (hi 40) z) (dO (hi 40) z) then 1 else 0) (hi 40 0).toNat) ∨ (0 ≤ k ∧ ∃ i : Int, Fst (fun z => (ofP p (bO (hi 40) z) (dO (hi 40) z)) ∧ sm (fun z => if ofP p (bO (hi 40) z) (dO (hi 40) z) then 1 else 0) z.toNat = k) (hi 40 0) i ∧ ((i < 0 ∧ v = -2) ∨ (0 ≤ i ∧ v = nO (hi 40) i)))) → Q (AI v) hi) := by
  refine Ct.of (ws' := _) (by decide +kernel) rfl rfl ?_
  intro a hi Q hT
  obtain ⟨p, k, rfl, hpre, hQ⟩ := hT
  refine ⟨Nat.le_of_ble_eq_true rfl, ?_⟩
  show Z kX8_onOf Q 0 [(0, AR 40), (1, AI p), (2, AI k)] [] hi
  refine z_iconst (pc := 0) (v := 0) dX8_onOf_0 rfl ?_
  refine z_istore_n (pc := 1) (lv' := [(3, AI 0), (0, AR 40), (1, AI p), (2, AI k)]) dX8_onOf_1 rfl (by decide) rfl ?_
  refine z_iconst (pc := 2) (v := 0) dX8_onOf_2 rfl ?_
  refine z_istore (pc := 3) (lv' := [(4, AI 0), (3, AI 0), (0, AR 40), (1, AI p), (2, AI k)]) dX8_onOf_3 (by decide) rfl ?_
  have n0 := hpre.1.1
  have J5 : ∀ (N : Nat) (j acc : Int), (0 ≤ j ∧ j ≤ hi 40 0) → (acc = sm (fun z => if ofP p (bO (hi 40) z) (dO (hi 40) z) then 1 else 0) j.toNat ∧ 0 ≤ acc ∧ acc ≤ j) → (∀ z : Int, 0 ≤ z → z < j → ¬ ((ofP p (bO (hi 40) z) (dO (hi 40) z)) ∧ sm (fun z => if ofP p (bO (hi 40) z) (dO (hi 40) z) then 1 else 0) z.toNat = k)) → ((hi 40 0 - j).toNat) < N → Z kX8_onOf Q 5 [(4, AI j), (3, AI acc), (0, AR 40), (1, AI p), (2, AI k)] [] hi := by
    intro N
    induction N with
    | zero => intro j acc _ _ _ _; exact absurd (by assumption) (Nat.not_lt_zero _)
    | succ N ih5 =>
      intro j acc i0 i1 i2 hm5
      refine z_iload (pc := 5) dX8_onOf_5 0 rfl ?_
      refine z_aload_n (pc := 7) (x := 40) dX8_onOf_7 rfl 2 rfl ?_
      refine z_getR (pc := 8) (pl := 39) (f := 1) (ci := 7) (C := RX8) (T := TX8) (N := 33) hu_X8 (by decide) rfl rfl (by decide) rfl (List.mem_cons_of_mem _ (iw5 _ (List.mem_of_getElem? (i := 5) rfl))) rfl dX8_onOf_8 ?_
      refine z_iconst (pc := 11) (v := 0) dX8_onOf_11 rfl ?_
      refine z_iald (pc := 12) (pl := 40) (by decide) rfl (by decide) (by decide) (by decide) (by decide) dX8_onOf_12 (fun v1 ev1 rv1 => ?_)
      replace ev1 : v1 = hi 40 0 := ev1
      refine z_icmp_ge (pc := 13) (tgt := 48) dX8_onOf_13 (by decide) ⟨by omega, by omega⟩ ⟨by omega, by omega⟩ (fun c2 => ?_) (fun c2 => ?_)
      · refine z_iload_n (pc := 48) dX8_onOf_48 rfl 4 rfl ?_
        refine z_iconst (pc := 49) (v := (-1)) dX8_onOf_49 rfl ?_
        refine z_icmp_ne (pc := 50) (tgt := 57) dX8_onOf_50 (by decide) ⟨by omega, by omega⟩ ⟨by decide, by decide⟩ (fun c3 => ?_) (fun c3 => ?_)
        · refine z_bipush (pc := 57) (v := (-2)) dX8_onOf_57 (by decide +kernel) ?_
          refine z_iret (pc := 59) rfl dX8_onOf_59 ?_
          exact hQ (-2) (by first | exact Or.inl ⟨by omega, by rw [i1.1, show j = hi 40 0 by omega]⟩ | exact Or.inr ⟨by omega, -1, Or.inr ⟨rfl, fun z z0 z1 => i2 z z0 (by omega)⟩, by omega⟩ | exact Or.inr ⟨by omega, j, Or.inl ⟨by omega, by omega, ⟨by omega, by rw [← i1.1]; omega⟩, i2⟩, by omega⟩)
        · refine z_iload_n (pc := 53) dX8_onOf_53 rfl 1 rfl ?_
          refine z_goto (pc := 54) (tgt := 59) dX8_onOf_54 (by decide) ?_
          refine z_iret (pc := 59) rfl dX8_onOf_59 ?_
          exact hQ acc (by first | exact Or.inl ⟨by omega, by rw [i1.1, show j = hi 40 0 by omega]⟩ | exact Or.inr ⟨by omega, -1, Or.inr ⟨rfl, fun z z0 z1 => i2 z z0 (by omega)⟩, by omega⟩ | exact Or.inr ⟨by omega, j, Or.inl ⟨by omega, by omega, ⟨by omega, by rw [← i1.1]; omega⟩, i2⟩, by omega⟩)
      · refine z_aload_n (pc := 16) (x := 40) dX8_onOf_16 rfl 2 rfl ?_
        refine z_iload_n (pc := 17) dX8_onOf_17 rfl 3 rfl ?_
        refine z_iload (pc := 18) dX8_onOf_18 0 rfl ?_
        refine z_callV (pc := 20) (kc := kX8_isOf) (n := 2) (pl := 39) (ci := 7) (C := RX8) (As := [AI p, AI j]) (stk := []) ct_X8_isOf (gdV rfl rfl (iw40 _ (List.mem_of_getElem? (i := 2) rfl)) (iw40 _ (List.mem_of_getElem? (i := 3) rfl)) (iw40 _ (List.mem_of_getElem? (i := 4) rfl)) (iw1 _ (List.mem_of_getElem? (i := 5) rfl)) (iw40 _ (List.mem_of_getElem? (i := 5) rfl))) rfl ⟨rfl, rfl⟩ (by decide +kernel) ⟨by decide, by decide⟩ (by decide) rfl rfl dX8_onOf_20 rfl rfl (Nat.le_of_ble_eq_true rfl) ?_
        refine ⟨_, _, rfl, ⟨hpre.1, hpre.2.1, by omega⟩, fun v4 ev4 => ?_⟩
        refine z_if_eq (pc := 23) (tgt := 42) dX8_onOf_23 (by decide) ⟨by omega, by omega⟩ (fun c5 => ?_) (fun c5 => ?_)
        · refine z_iinc (pc := 42) (j := 0) (w := fun q => (4, AI q) :: [(3, AI acc), (0, AR 40), (1, AI p), (2, AI k)]) dX8_onOf_42 rfl (by decide) (fun _ => rfl) (fun v6 ev6 => ?_)
          refine z_goto (pc := 45) (tgt := 5) dX8_onOf_45 (by decide) ?_
          exact ih5 v6 acc (by omega) (⟨sm_step (by omega) (by omega) i1.1 (by first | omega | (split <;> omega)), by omega⟩) (no_step i2 (by rw [← i1.1]; omega) (by omega)) (by omega)
        · refine z_iload_n (pc := 26) dX8_onOf_26 rfl 1 rfl ?_
          refine z_iload_n (pc := 27) dX8_onOf_27 rfl 4 rfl ?_
          refine z_icmp_ne (pc := 28) (tgt := 39) dX8_onOf_28 (by decide) ⟨by omega, by omega⟩ ⟨by omega, by omega⟩ (fun c7 => ?_) (fun c7 => ?_)
          · refine z_iinc (pc := 39) (j := 1) (w := fun q => (3, AI q) :: [(4, AI j), (0, AR 40), (1, AI p), (2, AI k)]) dX8_onOf_39 rfl (by decide) (fun _ => rfl) (fun v8 ev8 => ?_)
            refine z_iinc (pc := 42) (j := 1) (w := fun q => (4, AI q) :: [(3, AI v8), (0, AR 40), (1, AI p), (2, AI k)]) dX8_onOf_42 rfl (by decide) (fun _ => rfl) (fun v9 ev9 => ?_)
            refine z_goto (pc := 45) (tgt := 5) dX8_onOf_45 (by decide) ?_
            exact ih5 v9 v8 (by omega) (⟨sm_step (by omega) (by omega) i1.1 (by first | omega | (split <;> omega)), by omega⟩) (no_step i2 (by rw [← i1.1]; omega) (by omega)) (by omega)
          · refine z_aload_n (pc := 31) (x := 40) dX8_onOf_31 rfl 2 rfl ?_
            refine z_iload (pc := 32) dX8_onOf_32 0 rfl ?_
            refine z_iconst (pc := 34) (v := 0) dX8_onOf_34 rfl ?_
            refine z_callV (pc := 35) (kc := kX8_its) (n := 2) (pl := 39) (ci := 7) (C := RX8) (As := [AI j, AI 0]) (stk := []) ct_X8_its (gdV rfl rfl (iw13 _ (List.mem_of_getElem? (i := 0) rfl)) (iw13 _ (List.mem_of_getElem? (i := 1) rfl)) (iw13 _ (List.mem_of_getElem? (i := 2) rfl)) (iw1 _ (List.mem_of_getElem? (i := 5) rfl)) (iw13 _ (List.mem_of_getElem? (i := 3) rfl))) rfl ⟨rfl, rfl⟩ (by decide +kernel) ⟨by decide, by decide⟩ (by decide) rfl rfl dX8_onOf_35 rfl rfl (Nat.le_of_ble_eq_true rfl) ?_
            refine ⟨_, _, rfl, by omega, fun v10 ev10 => ?_⟩
            replace ev10 : v10 = nO (hi 40) j ∧ inR v10 := ev10
            refine z_iret (pc := 38) rfl dX8_onOf_38 ?_
            exact hQ v10 (by first | exact Or.inl ⟨by omega, by rw [i1.1, show j = hi 40 0 by omega]⟩ | exact Or.inr ⟨by omega, -1, Or.inr ⟨rfl, fun z z0 z1 => i2 z z0 (by omega)⟩, by omega⟩ | exact Or.inr ⟨by omega, j, Or.inl ⟨by omega, by omega, ⟨by omega, by rw [← i1.1]; omega⟩, i2⟩, by omega⟩)
  exact J5 _ 0 0 (by omega) (⟨sm_0 rfl rfl, by omega⟩) (no_0 rfl) (Nat.lt_succ_self _)

abbrev kX8_on : Kd := (cX8_on, .code yX8_on cX8_on 2 (some .int) :: wsL_law0, rmL 6, RX8, (some .int), 2)
theorem ct_X8_on : Ct kX8_on yX8_on (fun a hi Q => ∃ p : Int, a = [AR 40, AI p] ∧ (RI (hi 40) (hi 40 0) ∧ inR p) ∧ ∀ (v : Int) (h2 : HI), (Fr [39] hi h2 ∧ (h2 = Z0 hi ∧ ((v = -1 ∧ ¬ (1 ≤ p ∧ p ≤ 127)) ∨ ((1 ≤ p ∧ p ≤ 127) ∧ v = sm (fun z => if ofP p (bO (hi 40) z) (dO (hi 40) z) then 1 else 0) (hi 40 0).toNat)))) → Q (AI v) h2) := by
  refine Ct.of (ws' := _) (by decide +kernel) rfl rfl ?_
  intro a hi Q hT
  obtain ⟨p, rfl, hpre, hQ⟩ := hT
  refine ⟨Nat.le_of_ble_eq_true rfl, ?_⟩
  show Z kX8_on Q 0 [(0, AR 40), (1, AI p)] [] hi
  refine z_aload_n (pc := 0) (x := 40) dX8_on_0 rfl 0 rfl ?_
  refine z_iconst (pc := 1) (v := 0) dX8_on_1 rfl ?_
  refine z_putI (pc := 2) (pl := 39) (f := 0) (ci := 7) (C := RX8) (T := TX8) (N := 33) hu_X8 tyX8_ok nmX8 (by decide) rfl rfl (by decide) rfl (List.mem_cons_of_mem _ (iw8 _ (List.mem_of_getElem? (i := 22) rfl))) rfl rfl (ty := .int) (by decide +kernel) rfl rfl ⟨by decide, by decide⟩ dX8_on_2 (fun h1 eh1 => ?_)
  have frh1 : Fr [39] hi h1 := (Fr.put (Fr.rf) eh1 (by decide))
  have z1 : h1 = Z0 hi := eh1
  have n0 := hpre.1.1
  have e40 : h1 40 = hi 40 := by rw [z1]; rfl
  refine z_iload_n (pc := 5) dX8_on_5 rfl 1 rfl ?_
  refine z_i2l (pc := 6) dX8_on_6 ⟨by omega, by omega⟩ ?_
  refine z_lconst (pc := 7) (v := 1) dX8_on_7 (by decide +kernel) ?_
  refine z_ldc2 (pc := 8) (v := 127) (x := 127) (List.mem_cons_of_mem _ (iw51 _ (List.mem_of_getElem? (i := 11) rfl))) (by decide +kernel) dX8_on_8 ?_
  refine z_callS (pc := 11) (kc := kX8_within) (n := 3) (As := [AL p, AL 1, AL 127]) (stk := []) ct_X8_within (gdS rfl rfl (iw9 _ (List.mem_of_getElem? (i := 9) rfl)) (iw9 _ (List.mem_of_getElem? (i := 10) rfl)) (iw1 _ (List.mem_of_getElem? (i := 5) rfl)) (iw9 _ (List.mem_of_getElem? (i := 11) rfl))) rfl ⟨rfl, rfl⟩ (by decide +kernel) ⟨by decide, by decide⟩ dX8_on_11 rfl rfl (Nat.le_of_ble_eq_true rfl) ?_
  refine ⟨_, _, _, rfl, ⟨⟨by omega, by omega⟩, ⟨by omega, by omega⟩, ⟨by omega, by omega⟩⟩, fun v2 ev2 => ?_⟩
  refine z_if_eq (pc := 14) (tgt := 26) dX8_on_14 (by decide) ⟨by omega, by omega⟩ (fun c3 => ?_) (fun c3 => ?_)
  · refine z_iconst (pc := 26) (v := (-1)) dX8_on_26 rfl ?_
    refine z_iret (pc := 27) rfl dX8_on_27 ?_
    exact hQ (-1) h1 ⟨frh1, ⟨z1, by first | exact Or.inl ⟨rfl, by omega⟩ | exact Or.inr ⟨by omega, w20.elim (fun q => q.2) (fun q => absurd q.1 (by decide))⟩⟩⟩
  · refine z_aload_n (pc := 17) (x := 40) dX8_on_17 rfl 0 rfl ?_
    refine z_iload_n (pc := 18) dX8_on_18 rfl 1 rfl ?_
    refine z_iconst (pc := 19) (v := (-1)) dX8_on_19 rfl ?_
    refine z_callV (pc := 20) (kc := kX8_onOf) (n := 2) (pl := 39) (ci := 7) (C := RX8) (As := [AI p, AI (-1)]) (stk := []) ct_X8_onOf (gdV rfl rfl (iw51 _ (List.mem_of_getElem? (i := 12) rfl)) (iw51 _ (List.mem_of_getElem? (i := 13) rfl)) (iw51 _ (List.mem_of_getElem? (i := 14) rfl)) (iw1 _ (List.mem_of_getElem? (i := 5) rfl)) (iw51 _ (List.mem_of_getElem? (i := 15) rfl))) rfl ⟨rfl, rfl⟩ (by decide +kernel) ⟨by decide, by decide⟩ (by decide) rfl rfl dX8_on_20 rfl rfl (Nat.le_of_ble_eq_true rfl) ?_
    refine ⟨_, _, rfl, by rw [e40]; exact ⟨hpre.1, by omega, ⟨by decide, by decide⟩, by decide⟩, fun v4 ev4 => ?_⟩
    try rw [(by rw [eh1]; rfl : h1 40 = hi 40)] at ev4
    have w20 := ev4
    refine z_goto (pc := 23) (tgt := 27) dX8_on_23 (by decide) ?_
    refine z_iret (pc := 27) rfl dX8_on_27 ?_
    exact hQ v4 h1 ⟨frh1, ⟨z1, by first | exact Or.inl ⟨rfl, by omega⟩ | exact Or.inr ⟨by omega, w20.elim (fun q => q.2) (fun q => absurd q.1 (by decide))⟩⟩⟩

abbrev kX8_onAt : Kd := (cX8_onAt, .code yX8_onAt cX8_onAt 3 (some .int) :: wsL_law0, rmL 6, RX8, (some .int), 3)
theorem ct_X8_onAt : Ct kX8_onAt yX8_onAt (fun a hi Q => ∃ p : Int, ∃ k : Int, a = [AR 40, AI p, AI k] ∧ (RI (hi 40) (hi 40 0) ∧ inR p ∧ inR k) ∧ ∀ (v : Int) (h2 : HI), (Fr [39] hi h2 ∧ (h2 = Z0 hi ∧ ((v = -1 ∧ ¬ ((1 ≤ p ∧ p ≤ 127) ∧ 0 ≤ k)) ∨ (((1 ≤ p ∧ p ≤ 127) ∧ 0 ≤ k) ∧ ∃ i : Int, Fst (fun z => (ofP p (bO (hi 40) z) (dO (hi 40) z)) ∧ sm (fun z => if ofP p (bO (hi 40) z) (dO (hi 40) z) then 1 else 0) z.toNat = k) (hi 40 0) i ∧ ((i < 0 ∧ v = -2) ∨ (0 ≤ i ∧ v = nO (hi 40) i)))))) → Q (AI v) h2) := by
  refine Ct.of (ws' := _) (by decide +kernel) rfl rfl ?_
  intro a hi Q hT
  obtain ⟨p, k, rfl, hpre, hQ⟩ := hT
  refine ⟨Nat.le_of_ble_eq_true rfl, ?_⟩
  show Z kX8_onAt Q 0 [(0, AR 40), (1, AI p), (2, AI k)] [] hi
  refine z_aload_n (pc := 0) (x := 40) dX8_onAt_0 rfl 0 rfl ?_
  refine z_iconst (pc := 1) (v := 0) dX8_onAt_1 rfl ?_
  refine z_putI (pc := 2) (pl := 39) (f := 0) (ci := 7) (C := RX8) (T := TX8) (N := 33) hu_X8 tyX8_ok nmX8 (by decide) rfl rfl (by decide) rfl (List.mem_cons_of_mem _ (iw8 _ (List.mem_of_getElem? (i := 22) rfl))) rfl rfl (ty := .int) (by decide +kernel) rfl rfl ⟨by decide, by decide⟩ dX8_onAt_2 (fun h1 eh1 => ?_)
  have frh1 : Fr [39] hi h1 := (Fr.put (Fr.rf) eh1 (by decide))
  have z1 : h1 = Z0 hi := eh1
  have n0 := hpre.1.1
  have e40 : h1 40 = hi 40 := by rw [z1]; rfl
  refine z_iload_n (pc := 5) dX8_onAt_5 rfl 1 rfl ?_
  refine z_i2l (pc := 6) dX8_onAt_6 ⟨by omega, by omega⟩ ?_
  refine z_lconst (pc := 7) (v := 1) dX8_onAt_7 (by decide +kernel) ?_
  refine z_ldc2 (pc := 8) (v := 127) (x := 127) (List.mem_cons_of_mem _ (iw51 _ (List.mem_of_getElem? (i := 11) rfl))) (by decide +kernel) dX8_onAt_8 ?_
  refine z_callS (pc := 11) (kc := kX8_within) (n := 3) (As := [AL p, AL 1, AL 127]) (stk := []) ct_X8_within (gdS rfl rfl (iw9 _ (List.mem_of_getElem? (i := 9) rfl)) (iw9 _ (List.mem_of_getElem? (i := 10) rfl)) (iw1 _ (List.mem_of_getElem? (i := 5) rfl)) (iw9 _ (List.mem_of_getElem? (i := 11) rfl))) rfl ⟨rfl, rfl⟩ (by decide +kernel) ⟨by decide, by decide⟩ dX8_onAt_11 rfl rfl (Nat.le_of_ble_eq_true rfl) ?_
  refine ⟨_, _, _, rfl, ⟨⟨by omega, by omega⟩, ⟨by omega, by omega⟩, ⟨by omega, by omega⟩⟩, fun v2 ev2 => ?_⟩
  refine z_if_eq (pc := 14) (tgt := 30) dX8_onAt_14 (by decide) ⟨by omega, by omega⟩ (fun c3 => ?_) (fun c3 => ?_)
  · refine z_iconst (pc := 30) (v := (-1)) dX8_onAt_30 rfl ?_
    refine z_iret (pc := 31) rfl dX8_onAt_31 ?_
    exact hQ (-1) h1 ⟨frh1, ⟨z1, by first | exact Or.inl ⟨rfl, by omega⟩ | exact Or.inr ⟨hb, w24.elim (fun q => absurd q.1 hk) (fun q => q.2)⟩⟩⟩
  · refine z_iload_n (pc := 17) dX8_onAt_17 rfl 2 rfl ?_
    refine z_if_lt (pc := 18) (tgt := 30) dX8_onAt_18 (by decide) ⟨by omega, by omega⟩ (fun c4 => ?_) (fun c4 => ?_)
    · refine z_iconst (pc := 30) (v := (-1)) dX8_onAt_30 rfl ?_
      refine z_iret (pc := 31) rfl dX8_onAt_31 ?_
      exact hQ (-1) h1 ⟨frh1, ⟨z1, by first | exact Or.inl ⟨rfl, by omega⟩ | exact Or.inr ⟨hb, w24.elim (fun q => absurd q.1 hk) (fun q => q.2)⟩⟩⟩
    · refine z_aload_n (pc := 21) (x := 40) dX8_onAt_21 rfl 0 rfl ?_
      refine z_iload_n (pc := 22) dX8_onAt_22 rfl 1 rfl ?_
      refine z_iload_n (pc := 23) dX8_onAt_23 rfl 2 rfl ?_
      refine z_callV (pc := 24) (kc := kX8_onOf) (n := 2) (pl := 39) (ci := 7) (C := RX8) (As := [AI p, AI k]) (stk := []) ct_X8_onOf (gdV rfl rfl (iw51 _ (List.mem_of_getElem? (i := 12) rfl)) (iw51 _ (List.mem_of_getElem? (i := 13) rfl)) (iw51 _ (List.mem_of_getElem? (i := 14) rfl)) (iw1 _ (List.mem_of_getElem? (i := 5) rfl)) (iw51 _ (List.mem_of_getElem? (i := 15) rfl))) rfl ⟨rfl, rfl⟩ (by decide +kernel) ⟨by decide, by decide⟩ (by decide) rfl rfl dX8_onAt_24 rfl rfl (Nat.le_of_ble_eq_true rfl) ?_
      refine ⟨_, _, rfl, by rw [e40]; exact ⟨hpre.1, by omega, ⟨by omega, by omega⟩, by omega⟩, fun v5 ev5 => ?_⟩
      try rw [(by rw [eh1]; rfl : h1 40 = hi 40)] at ev5
      have hb : (1 ≤ p ∧ p ≤ 127) ∧ 0 ≤ k := by clear ev5; omega
      have hk : ¬ k = -1 := by clear ev5; omega
      have w24 := ev5
      clear ev5
      refine z_goto (pc := 27) (tgt := 31) dX8_onAt_27 (by decide) ?_
      refine z_iret (pc := 31) rfl dX8_onAt_31 ?_
      exact hQ v5 h1 ⟨frh1, ⟨z1, by first | exact Or.inl ⟨rfl, by omega⟩ | exact Or.inr ⟨hb, w24.elim (fun q => absurd q.1 hk) (fun q => q.2)⟩⟩⟩

abbrev kX8_both : Kd := (cX8_both, .code yX8_both cX8_both 5 (some .int) :: wsL_law0, rmL 5, RX8, (some .int), 5)
theorem ct_X8_both : Ct kX8_both yX8_both (fun a hi Q => ∃ x : Int, ∃ y : Int, a = [AR 40, AI x, AI y] ∧ (RI (hi 40) (hi 40 0) ∧ inR x ∧ inR y) ∧ ∀ (v : Int) (h2 : HI), (Fr [39] hi h2 ∧ (h2 = Z0 hi ∧ ((v = -1 ∧ ¬ ((0 ≤ x ∧ x ≤ 999) ∧ (0 ≤ y ∧ y ≤ 999))) ∨ (((0 ≤ x ∧ x ≤ 999) ∧ (0 ≤ y ∧ y ≤ 999)) ∧ v = cntP (fun h => Hrs (hi 40) (hi 40 0) x (-1) h ∧ Hrs (hi 40) (hi 40 0) y (-1) h) 64)))) → Q (AI v) h2) := by
  refine Ct.of (ws' := _) (by decide +kernel) rfl rfl ?_
  intro a hi Q hT
  obtain ⟨x, y, rfl, hpre, hQ⟩ := hT
  refine ⟨Nat.le_of_ble_eq_true rfl, ?_⟩
  show Z kX8_both Q 0 [(0, AR 40), (1, AI x), (2, AI y)] [] hi
  refine z_aload_n (pc := 0) (x := 40) dX8_both_0 rfl 0 rfl ?_
  refine z_iconst (pc := 1) (v := 0) dX8_both_1 rfl ?_
  refine z_putI (pc := 2) (pl := 39) (f := 0) (ci := 7) (C := RX8) (T := TX8) (N := 33) hu_X8 tyX8_ok nmX8 (by decide) rfl rfl (by decide) rfl (List.mem_cons_of_mem _ (iw8 _ (List.mem_of_getElem? (i := 22) rfl))) rfl rfl (ty := .int) (by decide +kernel) rfl rfl ⟨by decide, by decide⟩ dX8_both_2 (fun h1 eh1 => ?_)
  have frh1 : Fr [39] hi h1 := (Fr.put (Fr.rf) eh1 (by decide))
  have z1 : h1 = Z0 hi := eh1
  have n0 := hpre.1.1
  have e40 : h1 40 = hi 40 := by rw [z1]; rfl
  refine z_iload_n (pc := 5) dX8_both_5 rfl 1 rfl ?_
  refine z_callS (pc := 6) (kc := kX8_isNumber) (n := 1) (As := [AI x]) (stk := []) ct_X8_isNumber (gdS rfl rfl (iw9 _ (List.mem_of_getElem? (i := 5) rfl)) (iw9 _ (List.mem_of_getElem? (i := 6) rfl)) (iw1 _ (List.mem_of_getElem? (i := 5) rfl)) (iw9 _ (List.mem_of_getElem? (i := 7) rfl))) rfl ⟨rfl, rfl⟩ (by decide +kernel) ⟨by decide, by decide⟩ dX8_both_6 rfl rfl (Nat.le_of_ble_eq_true rfl) ?_
  refine ⟨_, rfl, by omega, fun v2 ev2 => ?_⟩
  refine z_if_eq (pc := 9) (tgt := 19) dX8_both_9 (by decide) ⟨by omega, by omega⟩ (fun c3 => ?_) (fun c3 => ?_)
  · refine z_iconst (pc := 19) (v := (-1)) dX8_both_19 rfl ?_
    refine z_iret (pc := 20) rfl dX8_both_20 ?_
    exact hQ (-1) h1 ⟨frh1, ⟨z1, by first | exact Or.inl ⟨rfl, by omega⟩ | exact Or.inr ⟨by omega, by rw [i1, show k = 64 by omega]; rfl⟩⟩⟩
  · refine z_iload_n (pc := 12) dX8_both_12 rfl 2 rfl ?_
    refine z_callS (pc := 13) (kc := kX8_isNumber) (n := 1) (As := [AI y]) (stk := []) ct_X8_isNumber (gdS rfl rfl (iw9 _ (List.mem_of_getElem? (i := 5) rfl)) (iw9 _ (List.mem_of_getElem? (i := 6) rfl)) (iw1 _ (List.mem_of_getElem? (i := 5) rfl)) (iw9 _ (List.mem_of_getElem? (i := 7) rfl))) rfl ⟨rfl, rfl⟩ (by decide +kernel) ⟨by decide, by decide⟩ dX8_both_13 rfl rfl (Nat.le_of_ble_eq_true rfl) ?_
    refine ⟨_, rfl, by omega, fun v4 ev4 => ?_⟩
    refine z_if_ne (pc := 16) (tgt := 21) dX8_both_16 (by decide) ⟨by omega, by omega⟩ (fun c5 => ?_) (fun c5 => ?_)
    · refine z_iconst (pc := 21) (v := 0) dX8_both_21 rfl ?_
      refine z_istore_n (pc := 22) (lv' := [(3, AI 0), (0, AR 40), (1, AI x), (2, AI y)]) dX8_both_22 rfl (by decide) rfl ?_
      refine z_iconst (pc := 23) (v := 0) dX8_both_23 rfl ?_
      refine z_istore (pc := 24) (lv' := [(4, AI 0), (3, AI 0), (0, AR 40), (1, AI x), (2, AI y)]) dX8_both_24 (by decide) rfl ?_
      have J26 : ∀ (N : Nat) (k acc : Int), (0 ≤ k ∧ k ≤ 64) → (acc = cntP (fun h => Hrs (hi 40) (hi 40 0) x (-1) h ∧ Hrs (hi 40) (hi 40 0) y (-1) h) k.toNat) → ((64 - k).toNat) < N → Z kX8_both Q 26 [(4, AI k), (3, AI acc), (0, AR 40), (1, AI x), (2, AI y)] [] h1 := by
        intro N
        induction N with
        | zero => intro k acc _ _ _; exact absurd (by assumption) (Nat.not_lt_zero _)
        | succ N ih26 =>
          intro k acc i0 i1 hm26
          refine z_iload (pc := 26) dX8_both_26 0 rfl ?_
          refine z_bipush (pc := 28) (v := 64) dX8_both_28 (by decide +kernel) ?_
          refine z_icmp_ge (pc := 30) (tgt := 67) dX8_both_30 (by decide) ⟨by omega, by omega⟩ ⟨by decide, by decide⟩ (fun c6 => ?_) (fun c6 => ?_)
          · refine z_iload_n (pc := 67) dX8_both_67 rfl 1 rfl ?_
            refine z_iret (pc := 68) rfl dX8_both_68 ?_
            exact hQ acc h1 ⟨frh1, ⟨z1, by first | exact Or.inl ⟨rfl, by omega⟩ | exact Or.inr ⟨by omega, by rw [i1, show k = 64 by omega]; rfl⟩⟩⟩
          · refine z_iload_n (pc := 33) dX8_both_33 rfl 1 rfl ?_
            refine z_aload_n (pc := 34) (x := 40) dX8_both_34 rfl 2 rfl ?_
            refine z_iload_n (pc := 35) dX8_both_35 rfl 3 rfl ?_
            refine z_iload (pc := 36) dX8_both_36 0 rfl ?_
            refine z_callV (pc := 38) (kc := kX8_isAlive) (n := 2) (pl := 39) (ci := 7) (C := RX8) (As := [AI x, AI k]) (stk := [AI acc]) ct_X8_isAlive (gdV rfl rfl (iw48 _ (List.mem_of_getElem? (i := 11) rfl)) (iw48 _ (List.mem_of_getElem? (i := 12) rfl)) (iw48 _ (List.mem_of_getElem? (i := 13) rfl)) (iw1 _ (List.mem_of_getElem? (i := 5) rfl)) (iw48 _ (List.mem_of_getElem? (i := 14) rfl))) rfl ⟨rfl, rfl⟩ (by decide +kernel) ⟨by decide, by decide⟩ (by decide) rfl rfl dX8_both_38 rfl rfl (Nat.le_of_ble_eq_true rfl) ?_
            refine ⟨_, _, rfl, by (try rw [(by rw [eh1]; rfl : h1 40 = hi 40)]); exact ⟨by omega, ⟨by omega, by omega⟩, ⟨by omega, by omega⟩⟩, fun v7 ev7 => ?_⟩
            try rw [(by rw [eh1]; rfl : h1 40 = hi 40)] at ev7
            have w38 := ev7
            refine z_if_eq (pc := 41) (tgt := 58) dX8_both_41 (by decide) ⟨by omega, by omega⟩ (fun c8 => ?_) (fun c8 => ?_)
            · refine z_iconst (pc := 58) (v := 0) dX8_both_58 rfl ?_
              refine z_iadd (pc := 59) dX8_both_59 (fun v9 ev9 => ?_)
              refine z_istore_n (pc := 60) (lv' := [(3, AI v9), (4, AI k), (0, AR 40), (1, AI x), (2, AI y)]) dX8_both_60 rfl (by decide) rfl ?_
              refine z_iinc (pc := 61) (j := 1) (w := fun q => (4, AI q) :: [(3, AI v9), (0, AR 40), (1, AI x), (2, AI y)]) dX8_both_61 rfl (by decide) (fun _ => rfl) (fun v10 ev10 => ?_)
              refine z_goto (pc := 64) (tgt := 26) dX8_both_64 (by decide) ?_
              exact ih26 v10 v9 (by omega) (by first | exact cntP_yes (by omega) (by omega) i1 (⟨bT w38 (by omega), bT w48 (by omega)⟩) (by omega) | exact cntP_no (by omega) (by omega) i1 (by first | exact fun q => bF w38 (by omega) q.1 | exact fun q => bF w48 (by omega) q.2) (by omega)) (by omega)
            · refine z_aload_n (pc := 44) (x := 40) dX8_both_44 rfl 2 rfl ?_
              refine z_iload_n (pc := 45) dX8_both_45 rfl 4 rfl ?_
              refine z_iload (pc := 46) dX8_both_46 0 rfl ?_
              refine z_callV (pc := 48) (kc := kX8_isAlive) (n := 2) (pl := 39) (ci := 7) (C := RX8) (As := [AI y, AI k]) (stk := [AI acc]) ct_X8_isAlive (gdV rfl rfl (iw48 _ (List.mem_of_getElem? (i := 11) rfl)) (iw48 _ (List.mem_of_getElem? (i := 12) rfl)) (iw48 _ (List.mem_of_getElem? (i := 13) rfl)) (iw1 _ (List.mem_of_getElem? (i := 5) rfl)) (iw48 _ (List.mem_of_getElem? (i := 14) rfl))) rfl ⟨rfl, rfl⟩ (by decide +kernel) ⟨by decide, by decide⟩ (by decide) rfl rfl dX8_both_48 rfl rfl (Nat.le_of_ble_eq_true rfl) ?_
              refine ⟨_, _, rfl, by (try rw [(by rw [eh1]; rfl : h1 40 = hi 40)]); exact ⟨by omega, ⟨by omega, by omega⟩, ⟨by omega, by omega⟩⟩, fun v11 ev11 => ?_⟩
              try rw [(by rw [eh1]; rfl : h1 40 = hi 40)] at ev11
              have w48 := ev11
              refine z_if_eq (pc := 51) (tgt := 58) dX8_both_51 (by decide) ⟨by omega, by omega⟩ (fun c12 => ?_) (fun c12 => ?_)
              · refine z_iconst (pc := 58) (v := 0) dX8_both_58 rfl ?_
                refine z_iadd (pc := 59) dX8_both_59 (fun v13 ev13 => ?_)
                refine z_istore_n (pc := 60) (lv' := [(3, AI v13), (4, AI k), (0, AR 40), (1, AI x), (2, AI y)]) dX8_both_60 rfl (by decide) rfl ?_
                refine z_iinc (pc := 61) (j := 1) (w := fun q => (4, AI q) :: [(3, AI v13), (0, AR 40), (1, AI x), (2, AI y)]) dX8_both_61 rfl (by decide) (fun _ => rfl) (fun v14 ev14 => ?_)
                refine z_goto (pc := 64) (tgt := 26) dX8_both_64 (by decide) ?_
                exact ih26 v14 v13 (by omega) (by first | exact cntP_yes (by omega) (by omega) i1 (⟨bT w38 (by omega), bT w48 (by omega)⟩) (by omega) | exact cntP_no (by omega) (by omega) i1 (by first | exact fun q => bF w38 (by omega) q.1 | exact fun q => bF w48 (by omega) q.2) (by omega)) (by omega)
              · refine z_iconst (pc := 54) (v := 1) dX8_both_54 rfl ?_
                refine z_goto (pc := 55) (tgt := 59) dX8_both_55 (by decide) ?_
                refine z_iadd (pc := 59) dX8_both_59 (fun v15 ev15 => ?_)
                refine z_istore_n (pc := 60) (lv' := [(3, AI v15), (4, AI k), (0, AR 40), (1, AI x), (2, AI y)]) dX8_both_60 rfl (by decide) rfl ?_
                refine z_iinc (pc := 61) (j := 1) (w := fun q => (4, AI q) :: [(3, AI v15), (0, AR 40), (1, AI x), (2, AI y)]) dX8_both_61 rfl (by decide) (fun _ => rfl) (fun v16 ev16 => ?_)
                refine z_goto (pc := 64) (tgt := 26) dX8_both_64 (by decide) ?_
                exact ih26 v16 v15 (by omega) (by first | exact cntP_yes (by omega) (by omega) i1 (⟨bT w38 (by omega), bT w48 (by omega)⟩) (by omega) | exact cntP_no (by omega) (by omega) i1 (by first | exact fun q => bF w38 (by omega) q.1 | exact fun q => bF w48 (by omega) q.2) (by omega)) (by omega)
      exact J26 _ 0 0 (by omega) (cntP_0 rfl rfl) (Nat.lt_succ_self _)
    · refine z_iconst (pc := 19) (v := (-1)) dX8_both_19 rfl ?_
      refine z_iret (pc := 20) rfl dX8_both_20 ?_
      exact hQ (-1) h1 ⟨frh1, ⟨z1, by first | exact Or.inl ⟨rfl, by omega⟩ | exact Or.inr ⟨by omega, by rw [i1, show k = 64 by omega]; rfl⟩⟩⟩

abbrev kX8_reigns : Kd := (cX8_reigns, .code yX8_reigns cX8_reigns 5 (some .int) :: wsL_law0, rmL 4, RX8, (some .int), 5)
theorem ct_X8_reigns : Ct kX8_reigns yX8_reigns (fun a hi Q => ∃ x : Int, ∃ y : Int, a = [AR 40, AI x, AI y] ∧ (RI (hi 40) (hi 40 0) ∧ inR x ∧ inR y) ∧ ∀ (v : Int) (h2 : HI), (Fr [39] hi h2 ∧ (h2 = Z0 hi ∧ ((v = -1 ∧ ¬ ((0 ≤ x ∧ x ≤ 999) ∧ (0 ≤ y ∧ y ≤ 999))) ∨ (((0 ≤ x ∧ x ≤ 999) ∧ (0 ≤ y ∧ y ≤ 999)) ∧ v = cntP (fun h => ∃ j : Int, Fst (fun z => x + 1 ≤ nO (hi 40) z ∧ al (hi 40) z h) (hi 40 0) j ∧ 0 ≤ j ∧ nO (hi 40) j = y) 64)))) → Q (AI v) h2) := by
  refine Ct.of (ws' := _) (by decide +kernel) rfl rfl ?_
  intro a hi Q hT
  obtain ⟨x, y, rfl, hpre, hQ⟩ := hT
  refine ⟨Nat.le_of_ble_eq_true rfl, ?_⟩
  show Z kX8_reigns Q 0 [(0, AR 40), (1, AI x), (2, AI y)] [] hi
  refine z_aload_n (pc := 0) (x := 40) dX8_reigns_0 rfl 0 rfl ?_
  refine z_iconst (pc := 1) (v := 0) dX8_reigns_1 rfl ?_
  refine z_putI (pc := 2) (pl := 39) (f := 0) (ci := 7) (C := RX8) (T := TX8) (N := 33) hu_X8 tyX8_ok nmX8 (by decide) rfl rfl (by decide) rfl (List.mem_cons_of_mem _ (iw8 _ (List.mem_of_getElem? (i := 22) rfl))) rfl rfl (ty := .int) (by decide +kernel) rfl rfl ⟨by decide, by decide⟩ dX8_reigns_2 (fun h1 eh1 => ?_)
  have frh1 : Fr [39] hi h1 := (Fr.put (Fr.rf) eh1 (by decide))
  have z1 : h1 = Z0 hi := eh1
  have n0 := hpre.1.1
  have e40 : h1 40 = hi 40 := by rw [z1]; rfl
  refine z_iload_n (pc := 5) dX8_reigns_5 rfl 1 rfl ?_
  refine z_callS (pc := 6) (kc := kX8_isNumber) (n := 1) (As := [AI x]) (stk := []) ct_X8_isNumber (gdS rfl rfl (iw9 _ (List.mem_of_getElem? (i := 5) rfl)) (iw9 _ (List.mem_of_getElem? (i := 6) rfl)) (iw1 _ (List.mem_of_getElem? (i := 5) rfl)) (iw9 _ (List.mem_of_getElem? (i := 7) rfl))) rfl ⟨rfl, rfl⟩ (by decide +kernel) ⟨by decide, by decide⟩ dX8_reigns_6 rfl rfl (Nat.le_of_ble_eq_true rfl) ?_
  refine ⟨_, rfl, by omega, fun v2 ev2 => ?_⟩
  refine z_if_eq (pc := 9) (tgt := 19) dX8_reigns_9 (by decide) ⟨by omega, by omega⟩ (fun c3 => ?_) (fun c3 => ?_)
  · refine z_iconst (pc := 19) (v := (-1)) dX8_reigns_19 rfl ?_
    refine z_iret (pc := 20) rfl dX8_reigns_20 ?_
    exact hQ (-1) h1 ⟨frh1, ⟨z1, by first | exact Or.inl ⟨rfl, by omega⟩ | exact Or.inr ⟨by omega, by rw [i1, show k = 64 by omega]; rfl⟩⟩⟩
  · refine z_iload_n (pc := 12) dX8_reigns_12 rfl 2 rfl ?_
    refine z_callS (pc := 13) (kc := kX8_isNumber) (n := 1) (As := [AI y]) (stk := []) ct_X8_isNumber (gdS rfl rfl (iw9 _ (List.mem_of_getElem? (i := 5) rfl)) (iw9 _ (List.mem_of_getElem? (i := 6) rfl)) (iw1 _ (List.mem_of_getElem? (i := 5) rfl)) (iw9 _ (List.mem_of_getElem? (i := 7) rfl))) rfl ⟨rfl, rfl⟩ (by decide +kernel) ⟨by decide, by decide⟩ dX8_reigns_13 rfl rfl (Nat.le_of_ble_eq_true rfl) ?_
    refine ⟨_, rfl, by omega, fun v4 ev4 => ?_⟩
    refine z_if_ne (pc := 16) (tgt := 21) dX8_reigns_16 (by decide) ⟨by omega, by omega⟩ (fun c5 => ?_) (fun c5 => ?_)
    · refine z_iconst (pc := 21) (v := 0) dX8_reigns_21 rfl ?_
      refine z_istore_n (pc := 22) (lv' := [(3, AI 0), (0, AR 40), (1, AI x), (2, AI y)]) dX8_reigns_22 rfl (by decide) rfl ?_
      refine z_iconst (pc := 23) (v := 0) dX8_reigns_23 rfl ?_
      refine z_istore (pc := 24) (lv' := [(4, AI 0), (3, AI 0), (0, AR 40), (1, AI x), (2, AI y)]) dX8_reigns_24 (by decide) rfl ?_
      have J26 : ∀ (N : Nat) (k acc : Int), (0 ≤ k ∧ k ≤ 64) → (acc = cntP (fun h => ∃ j : Int, Fst (fun z => x + 1 ≤ nO (hi 40) z ∧ al (hi 40) z h) (hi 40 0) j ∧ 0 ≤ j ∧ nO (hi 40) j = y) k.toNat) → ((64 - k).toNat) < N → Z kX8_reigns Q 26 [(4, AI k), (3, AI acc), (0, AR 40), (1, AI x), (2, AI y)] [] h1 := by
        intro N
        induction N with
        | zero => intro k acc _ _ _; exact absurd (by assumption) (Nat.not_lt_zero _)
        | succ N ih26 =>
          intro k acc i0 i1 hm26
          refine z_iload (pc := 26) dX8_reigns_26 0 rfl ?_
          refine z_bipush (pc := 28) (v := 64) dX8_reigns_28 (by decide +kernel) ?_
          refine z_icmp_ge (pc := 30) (tgt := 60) dX8_reigns_30 (by decide) ⟨by omega, by omega⟩ ⟨by decide, by decide⟩ (fun c6 => ?_) (fun c6 => ?_)
          · refine z_iload_n (pc := 60) dX8_reigns_60 rfl 1 rfl ?_
            refine z_iret (pc := 61) rfl dX8_reigns_61 ?_
            exact hQ acc h1 ⟨frh1, ⟨z1, by first | exact Or.inl ⟨rfl, by omega⟩ | exact Or.inr ⟨by omega, by rw [i1, show k = 64 by omega]; rfl⟩⟩⟩
          · refine z_iload_n (pc := 33) dX8_reigns_33 rfl 1 rfl ?_
            refine z_aload_n (pc := 34) (x := 40) dX8_reigns_34 rfl 2 rfl ?_
            refine z_iload_n (pc := 35) dX8_reigns_35 rfl 3 rfl ?_
            refine z_iconst (pc := 36) (v := 1) dX8_reigns_36 rfl ?_
            refine z_iadd (pc := 37) dX8_reigns_37 (fun v7 ev7 => ?_)
            refine z_iload (pc := 38) dX8_reigns_38 0 rfl ?_
            refine z_callV (pc := 40) (kc := kX8_leastFrom) (n := 2) (pl := 39) (ci := 7) (C := RX8) (As := [AI v7, AI k]) (stk := [AI acc]) ct_X8_leastFrom (gdV rfl rfl (iw39 _ (List.mem_of_getElem? (i := 3) rfl)) (iw39 _ (List.mem_of_getElem? (i := 4) rfl)) (iw39 _ (List.mem_of_getElem? (i := 5) rfl)) (iw1 _ (List.mem_of_getElem? (i := 5) rfl)) (iw39 _ (List.mem_of_getElem? (i := 6) rfl))) rfl ⟨rfl, rfl⟩ (by decide +kernel) ⟨by decide, by decide⟩ (by decide) rfl rfl dX8_reigns_40 rfl rfl (Nat.le_of_ble_eq_true rfl) ?_
            refine ⟨_, _, rfl, by (try rw [(by rw [eh1]; rfl : h1 40 = hi 40)]); exact ⟨hpre.1, ⟨by omega, by omega⟩, ⟨by omega, by omega⟩⟩, fun v8 ev8 => ?_⟩
            try rw [(by rw [eh1]; rfl : h1 40 = hi 40)] at ev8
            obtain ⟨kk, wf, wv⟩ := ev8
            rw [show v7 = x + 1 by omega] at wf
            refine z_iload_n (pc := 43) dX8_reigns_43 rfl 4 rfl ?_
            refine z_icmp_ne (pc := 44) (tgt := 51) dX8_reigns_44 (by decide) ⟨by omega, by omega⟩ ⟨by omega, by omega⟩ (fun c9 => ?_) (fun c9 => ?_)
            · refine z_iconst (pc := 51) (v := 0) dX8_reigns_51 rfl ?_
              refine z_iadd (pc := 52) dX8_reigns_52 (fun v10 ev10 => ?_)
              refine z_istore_n (pc := 53) (lv' := [(3, AI v10), (4, AI k), (0, AR 40), (1, AI x), (2, AI y)]) dX8_reigns_53 rfl (by decide) rfl ?_
              refine z_iinc (pc := 54) (j := 1) (w := fun q => (4, AI q) :: [(3, AI v10), (0, AR 40), (1, AI x), (2, AI y)]) dX8_reigns_54 rfl (by decide) (fun _ => rfl) (fun v11 ev11 => ?_)
              refine z_goto (pc := 57) (tgt := 26) dX8_reigns_57 (by decide) ?_
              exact ih26 v11 v10 (by omega) (by first | exact cntP_yes (by omega) (by omega) i1 (⟨_, wf, by omega, by omega⟩) (by omega) | exact cntP_no (by omega) (by omega) i1 (fun ⟨j, q1, q2, q3⟩ => by have := q1.uniq wf; subst this; omega) (by omega)) (by omega)
            · refine z_iconst (pc := 47) (v := 1) dX8_reigns_47 rfl ?_
              refine z_goto (pc := 48) (tgt := 52) dX8_reigns_48 (by decide) ?_
              refine z_iadd (pc := 52) dX8_reigns_52 (fun v12 ev12 => ?_)
              refine z_istore_n (pc := 53) (lv' := [(3, AI v12), (4, AI k), (0, AR 40), (1, AI x), (2, AI y)]) dX8_reigns_53 rfl (by decide) rfl ?_
              refine z_iinc (pc := 54) (j := 1) (w := fun q => (4, AI q) :: [(3, AI v12), (0, AR 40), (1, AI x), (2, AI y)]) dX8_reigns_54 rfl (by decide) (fun _ => rfl) (fun v13 ev13 => ?_)
              refine z_goto (pc := 57) (tgt := 26) dX8_reigns_57 (by decide) ?_
              exact ih26 v13 v12 (by omega) (by first | exact cntP_yes (by omega) (by omega) i1 (⟨_, wf, by omega, by omega⟩) (by omega) | exact cntP_no (by omega) (by omega) i1 (fun ⟨j, q1, q2, q3⟩ => by have := q1.uniq wf; subst this; omega) (by omega)) (by omega)
      exact J26 _ 0 0 (by omega) (cntP_0 rfl rfl) (Nat.lt_succ_self _)
    · refine z_iconst (pc := 19) (v := (-1)) dX8_reigns_19 rfl ?_
      refine z_iret (pc := 20) rfl dX8_reigns_20 ?_
      exact hQ (-1) h1 ⟨frh1, ⟨z1, by first | exact Or.inl ⟨rfl, by omega⟩ | exact Or.inr ⟨by omega, by rw [i1, show k = 64 by omega]; rfl⟩⟩⟩

abbrev kX8_crowd : Kd := (cX8_crowd, .code yX8_crowd cX8_crowd 5 (some .int) :: wsL_law0, rmL 4, RX8, (some .int), 5)
theorem ct_X8_crowd : Ct kX8_crowd yX8_crowd (fun a hi Q => ∃ y : Int, a = [AR 40, AI y] ∧ (RI (hi 40) (hi 40 0) ∧ inR y) ∧ ∀ (v : Int) (h2 : HI), (Fr [39] hi h2 ∧ (h2 = Z0 hi ∧ ((v = -1 ∧ ¬ (0 ≤ y ∧ y ≤ 3)) ∨ ((0 ≤ y ∧ y ≤ 3) ∧ ((y < 2 ∧ ∃ b, Amx (cntA (hi 40) (hi 40 0)) 64 b ∧ v = if y = 0 then b else (cntA (hi 40) (hi 40 0)) b) ∨ (2 ≤ y ∧ ∃ b, Amx (worA (hi 40) (hi 40 0)) 64 b ∧ v = if y = 2 then b else (worA (hi 40) (hi 40 0)) b)))))) → Q (AI v) h2) := by
  refine Ct.of (ws' := _) (by decide +kernel) rfl rfl ?_
  intro a hi Q hT
  obtain ⟨y, rfl, hpre, hQ⟩ := hT
  refine ⟨Nat.le_of_ble_eq_true rfl, ?_⟩
  show Z kX8_crowd Q 0 [(0, AR 40), (1, AI y)] [] hi
  refine z_aload_n (pc := 0) (x := 40) dX8_crowd_0 rfl 0 rfl ?_
  refine z_iconst (pc := 1) (v := 0) dX8_crowd_1 rfl ?_
  refine z_putI (pc := 2) (pl := 39) (f := 0) (ci := 7) (C := RX8) (T := TX8) (N := 33) hu_X8 tyX8_ok nmX8 (by decide) rfl rfl (by decide) rfl (List.mem_cons_of_mem _ (iw8 _ (List.mem_of_getElem? (i := 22) rfl))) rfl rfl (ty := .int) (by decide +kernel) rfl rfl ⟨by decide, by decide⟩ dX8_crowd_2 (fun h1 eh1 => ?_)
  have frh1 : Fr [39] hi h1 := (Fr.put (Fr.rf) eh1 (by decide))
  have z1 : h1 = Z0 hi := eh1
  have n0 := hpre.1.1
  have e40 : h1 40 = hi 40 := by rw [z1]; rfl
  refine z_iconst (pc := 5) (v := 0) dX8_crowd_5 rfl ?_
  refine z_istore_n (pc := 6) (lv' := [(2, AI 0), (0, AR 40), (1, AI y)]) dX8_crowd_6 rfl (by decide) rfl ?_
  refine z_iconst (pc := 7) (v := 0) dX8_crowd_7 rfl ?_
  refine z_istore_n (pc := 8) (lv' := [(3, AI 0), (2, AI 0), (0, AR 40), (1, AI y)]) dX8_crowd_8 rfl (by decide) rfl ?_
  refine z_iconst (pc := 9) (v := 1) dX8_crowd_9 rfl ?_
  refine z_istore (pc := 10) (lv' := [(4, AI 1), (3, AI 0), (2, AI 0), (0, AR 40), (1, AI y)]) dX8_crowd_10 (by decide) rfl ?_
  have J12 : ∀ (N : Nat) (k b m : Int), (1 ≤ k ∧ k ≤ 64) → (Amx (cntA (hi 40) (hi 40 0)) k b) → (Amx (worA (hi 40) (hi 40 0)) k m) → ((0 ≤ b ∧ b < 64) ∧ 0 ≤ m ∧ m < 64) → ((64 - k).toNat) < N → Z kX8_crowd Q 12 [(4, AI k), (3, AI m), (2, AI b), (0, AR 40), (1, AI y)] [] h1 := by
    intro N
    induction N with
    | zero => intro k b m _ _ _ _ _; exact absurd (by assumption) (Nat.not_lt_zero _)
    | succ N ih12 =>
      intro k b m i0 i1 i2 i3 hm12
      refine z_iload (pc := 12) dX8_crowd_12 0 rfl ?_
      refine z_bipush (pc := 14) (v := 64) dX8_crowd_14 (by decide +kernel) ?_
      refine z_icmp_ge (pc := 16) (tgt := 75) dX8_crowd_16 (by decide) ⟨by omega, by omega⟩ ⟨by decide, by decide⟩ (fun c2 => ?_) (fun c2 => ?_)
      · refine z_iload_n (pc := 75) dX8_crowd_75 rfl 4 rfl ?_
        refine z_tsw (pc := 76)  (x := y) (dtgt := 128) (tg := [108, 110, 116, 118]) dX8_crowd_76 ⟨by omega, by omega⟩ rfl (by decide) ?_ ?_
        · intro c3
          refine z_iconst (pc := 128) (v := (-1)) dX8_crowd_128 rfl ?_
          refine z_iret (pc := 129) rfl dX8_crowd_129 ?_
          exact hQ (-1) h1 ⟨frh1, ⟨z1, by first | exact Or.inl ⟨rfl, by omega⟩ | exact Or.inr ⟨by omega, Or.inl ⟨by omega, b, (show k = 64 by omega) ▸ i1, by first | (rw [if_pos (by omega)]) | (rw [if_neg (by omega)]; assumption)⟩⟩ | exact Or.inr ⟨by omega, Or.inr ⟨by omega, m, (show k = 64 by omega) ▸ i2, by first | (rw [if_pos (by omega)]) | (rw [if_neg (by omega)]; assumption)⟩⟩⟩⟩
        · refine ⟨fun c3 => ?_, fun c3 => ?_, fun c3 => ?_, fun c3 => ?_, trivial⟩
          · refine z_iload_n (pc := 108) dX8_crowd_108 rfl 2 rfl ?_
            refine z_iret (pc := 109) rfl dX8_crowd_109 ?_
            exact hQ b h1 ⟨frh1, ⟨z1, by first | exact Or.inl ⟨rfl, by omega⟩ | exact Or.inr ⟨by omega, Or.inl ⟨by omega, b, (show k = 64 by omega) ▸ i1, by first | (rw [if_pos (by omega)]) | (rw [if_neg (by omega)]; assumption)⟩⟩ | exact Or.inr ⟨by omega, Or.inr ⟨by omega, m, (show k = 64 by omega) ▸ i2, by first | (rw [if_pos (by omega)]) | (rw [if_neg (by omega)]; assumption)⟩⟩⟩⟩
          · refine z_aload_n (pc := 110) (x := 40) dX8_crowd_110 rfl 3 rfl ?_
            refine z_iload_n (pc := 111) dX8_crowd_111 rfl 2 rfl ?_
            refine z_callV (pc := 112) (kc := kX8_countAt) (n := 1) (pl := 39) (ci := 7) (C := RX8) (As := [AI b]) (stk := []) ct_X8_countAt (gdV rfl rfl (iw38 _ (List.mem_of_getElem? (i := 19) rfl)) (iw38 _ (List.mem_of_getElem? (i := 20) rfl)) (iw38 _ (List.mem_of_getElem? (i := 21) rfl)) (iw1 _ (List.mem_of_getElem? (i := 5) rfl)) (iw38 _ (List.mem_of_getElem? (i := 22) rfl))) rfl ⟨rfl, rfl⟩ (by decide +kernel) ⟨by decide, by decide⟩ (by decide) rfl rfl dX8_crowd_112 rfl rfl (Nat.le_of_ble_eq_true rfl) ?_
            refine ⟨_, rfl, by (try rw [(by rw [eh1]; rfl : h1 40 = hi 40)]); exact ⟨hpre.1, ⟨by omega, by omega⟩⟩, fun v4 ev4 => ?_⟩
            try rw [(by rw [eh1]; rfl : h1 40 = hi 40)] at ev4
            replace ev4 : v4 = (cntA (hi 40) (hi 40 0)) b := ev4
            have b112 := cnt_rng hpre.1 (h := b)
            replace b112 : 0 ≤ (cntA (hi 40) (hi 40 0)) b ∧ (cntA (hi 40) (hi 40 0)) b ≤ 4000 := b112
            refine z_iret (pc := 115) rfl dX8_crowd_115 ?_
            exact hQ v4 h1 ⟨frh1, ⟨z1, by first | exact Or.inl ⟨rfl, by omega⟩ | exact Or.inr ⟨by omega, Or.inl ⟨by omega, b, (show k = 64 by omega) ▸ i1, by first | (rw [if_pos (by omega)]) | (rw [if_neg (by omega)]; assumption)⟩⟩ | exact Or.inr ⟨by omega, Or.inr ⟨by omega, m, (show k = 64 by omega) ▸ i2, by first | (rw [if_pos (by omega)]) | (rw [if_neg (by omega)]; assumption)⟩⟩⟩⟩
          · refine z_iload_n (pc := 116) dX8_crowd_116 rfl 1 rfl ?_
            refine z_iret (pc := 117) rfl dX8_crowd_117 ?_
            exact hQ m h1 ⟨frh1, ⟨z1, by first | exact Or.inl ⟨rfl, by omega⟩ | exact Or.inr ⟨by omega, Or.inl ⟨by omega, b, (show k = 64 by omega) ▸ i1, by first | (rw [if_pos (by omega)]) | (rw [if_neg (by omega)]; assumption)⟩⟩ | exact Or.inr ⟨by omega, Or.inr ⟨by omega, m, (show k = 64 by omega) ▸ i2, by first | (rw [if_pos (by omega)]) | (rw [if_neg (by omega)]; assumption)⟩⟩⟩⟩
          · refine z_aload_n (pc := 118) (x := 40) dX8_crowd_118 rfl 3 rfl ?_
            refine z_iload_n (pc := 119) dX8_crowd_119 rfl 1 rfl ?_
            refine z_iconst (pc := 120) (v := 0) dX8_crowd_120 rfl ?_
            refine z_sipush (pc := 121) (v := 999) dX8_crowd_121 (by decide +kernel) ?_
            refine z_callV (pc := 124) (kc := kX8_sumAt) (n := 3) (pl := 39) (ci := 7) (C := RX8) (As := [AI m, AI 0, AI 999]) (stk := []) ct_X8_sumAt (gdV rfl rfl (iw38 _ (List.mem_of_getElem? (i := 23) rfl)) (iw39 _ (List.mem_of_getElem? (i := 0) rfl)) (iw39 _ (List.mem_of_getElem? (i := 1) rfl)) (iw1 _ (List.mem_of_getElem? (i := 5) rfl)) (iw39 _ (List.mem_of_getElem? (i := 2) rfl))) rfl ⟨rfl, rfl⟩ (by decide +kernel) ⟨by decide, by decide⟩ (by decide) rfl rfl dX8_crowd_124 rfl rfl (Nat.le_of_ble_eq_true rfl) ?_
            refine ⟨_, _, _, rfl, by (try rw [(by rw [eh1]; rfl : h1 40 = hi 40)]); exact ⟨hpre.1, ⟨by omega, by omega⟩, ⟨by omega, by omega⟩, ⟨by omega, by omega⟩⟩, fun v5 ev5 => ?_⟩
            try rw [(by rw [eh1]; rfl : h1 40 = hi 40)] at ev5
            replace ev5 : v5 = (worA (hi 40) (hi 40 0)) m := ev5
            have b124 := wor_rng hpre.1 (h := m)
            replace b124 : 0 ≤ (worA (hi 40) (hi 40 0)) m ∧ (worA (hi 40) (hi 40 0)) m ≤ 4000 := b124
            refine z_iret (pc := 127) rfl dX8_crowd_127 ?_
            exact hQ v5 h1 ⟨frh1, ⟨z1, by first | exact Or.inl ⟨rfl, by omega⟩ | exact Or.inr ⟨by omega, Or.inl ⟨by omega, b, (show k = 64 by omega) ▸ i1, by first | (rw [if_pos (by omega)]) | (rw [if_neg (by omega)]; assumption)⟩⟩ | exact Or.inr ⟨by omega, Or.inr ⟨by omega, m, (show k = 64 by omega) ▸ i2, by first | (rw [if_pos (by omega)]) | (rw [if_neg (by omega)]; assumption)⟩⟩⟩⟩
      · refine z_aload_n (pc := 19) (x := 40) dX8_crowd_19 rfl 3 rfl ?_
        refine z_iload (pc := 20) dX8_crowd_20 0 rfl ?_
        refine z_callV (pc := 22) (kc := kX8_countAt) (n := 1) (pl := 39) (ci := 7) (C := RX8) (As := [AI k]) (stk := []) ct_X8_countAt (gdV rfl rfl (iw38 _ (List.mem_of_getElem? (i := 19) rfl)) (iw38 _ (List.mem_of_getElem? (i := 20) rfl)) (iw38 _ (List.mem_of_getElem? (i := 21) rfl)) (iw1 _ (List.mem_of_getElem? (i := 5) rfl)) (iw38 _ (List.mem_of_getElem? (i := 22) rfl))) rfl ⟨rfl, rfl⟩ (by decide +kernel) ⟨by decide, by decide⟩ (by decide) rfl rfl dX8_crowd_22 rfl rfl (Nat.le_of_ble_eq_true rfl) ?_
        refine ⟨_, rfl, by (try rw [(by rw [eh1]; rfl : h1 40 = hi 40)]); exact ⟨hpre.1, ⟨by omega, by omega⟩⟩, fun v6 ev6 => ?_⟩
        try rw [(by rw [eh1]; rfl : h1 40 = hi 40)] at ev6
        replace ev6 : v6 = (cntA (hi 40) (hi 40 0)) k := ev6
        have b22 := cnt_rng hpre.1 (h := k)
        replace b22 : 0 ≤ (cntA (hi 40) (hi 40 0)) k ∧ (cntA (hi 40) (hi 40 0)) k ≤ 4000 := b22
        refine z_aload_n (pc := 25) (x := 40) dX8_crowd_25 rfl 3 rfl ?_
        refine z_iload_n (pc := 26) dX8_crowd_26 rfl 2 rfl ?_
        refine z_callV (pc := 27) (kc := kX8_countAt) (n := 1) (pl := 39) (ci := 7) (C := RX8) (As := [AI b]) (stk := [AI v6]) ct_X8_countAt (gdV rfl rfl (iw38 _ (List.mem_of_getElem? (i := 19) rfl)) (iw38 _ (List.mem_of_getElem? (i := 20) rfl)) (iw38 _ (List.mem_of_getElem? (i := 21) rfl)) (iw1 _ (List.mem_of_getElem? (i := 5) rfl)) (iw38 _ (List.mem_of_getElem? (i := 22) rfl))) rfl ⟨rfl, rfl⟩ (by decide +kernel) ⟨by decide, by decide⟩ (by decide) rfl rfl dX8_crowd_27 rfl rfl (Nat.le_of_ble_eq_true rfl) ?_
        refine ⟨_, rfl, by (try rw [(by rw [eh1]; rfl : h1 40 = hi 40)]); exact ⟨hpre.1, ⟨by omega, by omega⟩⟩, fun v7 ev7 => ?_⟩
        try rw [(by rw [eh1]; rfl : h1 40 = hi 40)] at ev7
        replace ev7 : v7 = (cntA (hi 40) (hi 40 0)) b := ev7
        have b27 := cnt_rng hpre.1 (h := b)
        replace b27 : 0 ≤ (cntA (hi 40) (hi 40 0)) b ∧ (cntA (hi 40) (hi 40 0)) b ≤ 4000 := b27
        refine z_icmp_le (pc := 30) (tgt := 38) dX8_crowd_30 (by decide) ⟨by omega, by omega⟩ ⟨by omega, by omega⟩ (fun c8 => ?_) (fun c8 => ?_)
        · refine z_iload_n (pc := 38) dX8_crowd_38 rfl 2 rfl ?_
          refine z_istore_n (pc := 39) (lv' := [(2, AI b), (4, AI k), (3, AI m), (0, AR 40), (1, AI y)]) dX8_crowd_39 rfl (by decide) rfl ?_
          refine z_aload_n (pc := 40) (x := 40) dX8_crowd_40 rfl 3 rfl ?_
          refine z_iload (pc := 41) dX8_crowd_41 1 rfl ?_
          refine z_iconst (pc := 43) (v := 0) dX8_crowd_43 rfl ?_
          refine z_sipush (pc := 44) (v := 999) dX8_crowd_44 (by decide +kernel) ?_
          refine z_callV (pc := 47) (kc := kX8_sumAt) (n := 3) (pl := 39) (ci := 7) (C := RX8) (As := [AI k, AI 0, AI 999]) (stk := []) ct_X8_sumAt (gdV rfl rfl (iw38 _ (List.mem_of_getElem? (i := 23) rfl)) (iw39 _ (List.mem_of_getElem? (i := 0) rfl)) (iw39 _ (List.mem_of_getElem? (i := 1) rfl)) (iw1 _ (List.mem_of_getElem? (i := 5) rfl)) (iw39 _ (List.mem_of_getElem? (i := 2) rfl))) rfl ⟨rfl, rfl⟩ (by decide +kernel) ⟨by decide, by decide⟩ (by decide) rfl rfl dX8_crowd_47 rfl rfl (Nat.le_of_ble_eq_true rfl) ?_
          refine ⟨_, _, _, rfl, by (try rw [(by rw [eh1]; rfl : h1 40 = hi 40)]); exact ⟨hpre.1, ⟨by omega, by omega⟩, ⟨by omega, by omega⟩, ⟨by omega, by omega⟩⟩, fun v9 ev9 => ?_⟩
          try rw [(by rw [eh1]; rfl : h1 40 = hi 40)] at ev9
          replace ev9 : v9 = (worA (hi 40) (hi 40 0)) k := ev9
          have b47 := wor_rng hpre.1 (h := k)
          replace b47 : 0 ≤ (worA (hi 40) (hi 40 0)) k ∧ (worA (hi 40) (hi 40 0)) k ≤ 4000 := b47
          refine z_aload_n (pc := 50) (x := 40) dX8_crowd_50 rfl 3 rfl ?_
          refine z_iload_n (pc := 51) dX8_crowd_51 rfl 2 rfl ?_
          refine z_iconst (pc := 52) (v := 0) dX8_crowd_52 rfl ?_
          refine z_sipush (pc := 53) (v := 999) dX8_crowd_53 (by decide +kernel) ?_
          refine z_callV (pc := 56) (kc := kX8_sumAt) (n := 3) (pl := 39) (ci := 7) (C := RX8) (As := [AI m, AI 0, AI 999]) (stk := [AI v9]) ct_X8_sumAt (gdV rfl rfl (iw38 _ (List.mem_of_getElem? (i := 23) rfl)) (iw39 _ (List.mem_of_getElem? (i := 0) rfl)) (iw39 _ (List.mem_of_getElem? (i := 1) rfl)) (iw1 _ (List.mem_of_getElem? (i := 5) rfl)) (iw39 _ (List.mem_of_getElem? (i := 2) rfl))) rfl ⟨rfl, rfl⟩ (by decide +kernel) ⟨by decide, by decide⟩ (by decide) rfl rfl dX8_crowd_56 rfl rfl (Nat.le_of_ble_eq_true rfl) ?_
          refine ⟨_, _, _, rfl, by (try rw [(by rw [eh1]; rfl : h1 40 = hi 40)]); exact ⟨hpre.1, ⟨by omega, by omega⟩, ⟨by omega, by omega⟩, ⟨by omega, by omega⟩⟩, fun v10 ev10 => ?_⟩
          try rw [(by rw [eh1]; rfl : h1 40 = hi 40)] at ev10
          replace ev10 : v10 = (worA (hi 40) (hi 40 0)) m := ev10
          have b56 := wor_rng hpre.1 (h := m)
          replace b56 : 0 ≤ (worA (hi 40) (hi 40 0)) m ∧ (worA (hi 40) (hi 40 0)) m ≤ 4000 := b56
          refine z_icmp_le (pc := 59) (tgt := 67) dX8_crowd_59 (by decide) ⟨by omega, by omega⟩ ⟨by omega, by omega⟩ (fun c11 => ?_) (fun c11 => ?_)
          · refine z_iload_n (pc := 67) dX8_crowd_67 rfl 2 rfl ?_
            refine z_istore_n (pc := 68) (lv' := [(3, AI m), (2, AI b), (4, AI k), (0, AR 40), (1, AI y)]) dX8_crowd_68 rfl (by decide) rfl ?_
            refine z_iinc (pc := 69) (j := 2) (w := fun q => (4, AI q) :: [(3, AI m), (2, AI b), (0, AR 40), (1, AI y)]) dX8_crowd_69 rfl (by decide) (fun _ => rfl) (fun v12 ev12 => ?_)
            refine z_goto (pc := 72) (tgt := 12) dX8_crowd_72 (by decide) ?_
            exact ih12 v12 b m (by omega) (by first | exact amx_new (by omega) (by omega) (Or.inr i1) (Or.inr (by omega)) | exact amx_old (by omega) i1 (by omega)) (by first | exact amx_new (by omega) (by omega) (Or.inr i2) (Or.inr (by omega)) | exact amx_old (by omega) i2 (by omega)) (by omega) (by omega)
          · refine z_iload (pc := 62) dX8_crowd_62 1 rfl ?_
            refine z_goto (pc := 64) (tgt := 68) dX8_crowd_64 (by decide) ?_
            refine z_istore_n (pc := 68) (lv' := [(3, AI k), (2, AI b), (4, AI k), (0, AR 40), (1, AI y)]) dX8_crowd_68 rfl (by decide) rfl ?_
            refine z_iinc (pc := 69) (j := 2) (w := fun q => (4, AI q) :: [(3, AI k), (2, AI b), (0, AR 40), (1, AI y)]) dX8_crowd_69 rfl (by decide) (fun _ => rfl) (fun v13 ev13 => ?_)
            refine z_goto (pc := 72) (tgt := 12) dX8_crowd_72 (by decide) ?_
            exact ih12 v13 b k (by omega) (by first | exact amx_new (by omega) (by omega) (Or.inr i1) (Or.inr (by omega)) | exact amx_old (by omega) i1 (by omega)) (by first | exact amx_new (by omega) (by omega) (Or.inr i2) (Or.inr (by omega)) | exact amx_old (by omega) i2 (by omega)) (by omega) (by omega)
        · refine z_iload (pc := 33) dX8_crowd_33 0 rfl ?_
          refine z_goto (pc := 35) (tgt := 39) dX8_crowd_35 (by decide) ?_
          refine z_istore_n (pc := 39) (lv' := [(2, AI k), (4, AI k), (3, AI m), (0, AR 40), (1, AI y)]) dX8_crowd_39 rfl (by decide) rfl ?_
          refine z_aload_n (pc := 40) (x := 40) dX8_crowd_40 rfl 3 rfl ?_
          refine z_iload (pc := 41) dX8_crowd_41 1 rfl ?_
          refine z_iconst (pc := 43) (v := 0) dX8_crowd_43 rfl ?_
          refine z_sipush (pc := 44) (v := 999) dX8_crowd_44 (by decide +kernel) ?_
          refine z_callV (pc := 47) (kc := kX8_sumAt) (n := 3) (pl := 39) (ci := 7) (C := RX8) (As := [AI k, AI 0, AI 999]) (stk := []) ct_X8_sumAt (gdV rfl rfl (iw38 _ (List.mem_of_getElem? (i := 23) rfl)) (iw39 _ (List.mem_of_getElem? (i := 0) rfl)) (iw39 _ (List.mem_of_getElem? (i := 1) rfl)) (iw1 _ (List.mem_of_getElem? (i := 5) rfl)) (iw39 _ (List.mem_of_getElem? (i := 2) rfl))) rfl ⟨rfl, rfl⟩ (by decide +kernel) ⟨by decide, by decide⟩ (by decide) rfl rfl dX8_crowd_47 rfl rfl (Nat.le_of_ble_eq_true rfl) ?_
          refine ⟨_, _, _, rfl, by (try rw [(by rw [eh1]; rfl : h1 40 = hi 40)]); exact ⟨hpre.1, ⟨by omega, by omega⟩, ⟨by omega, by omega⟩, ⟨by omega, by omega⟩⟩, fun v14 ev14 => ?_⟩
          try rw [(by rw [eh1]; rfl : h1 40 = hi 40)] at ev14
          replace ev14 : v14 = (worA (hi 40) (hi 40 0)) k := ev14
          have b47 := wor_rng hpre.1 (h := k)
          replace b47 : 0 ≤ (worA (hi 40) (hi 40 0)) k ∧ (worA (hi 40) (hi 40 0)) k ≤ 4000 := b47
          refine z_aload_n (pc := 50) (x := 40) dX8_crowd_50 rfl 3 rfl ?_
          refine z_iload_n (pc := 51) dX8_crowd_51 rfl 2 rfl ?_
          refine z_iconst (pc := 52) (v := 0) dX8_crowd_52 rfl ?_
          refine z_sipush (pc := 53) (v := 999) dX8_crowd_53 (by decide +kernel) ?_
          refine z_callV (pc := 56) (kc := kX8_sumAt) (n := 3) (pl := 39) (ci := 7) (C := RX8) (As := [AI m, AI 0, AI 999]) (stk := [AI v14]) ct_X8_sumAt (gdV rfl rfl (iw38 _ (List.mem_of_getElem? (i := 23) rfl)) (iw39 _ (List.mem_of_getElem? (i := 0) rfl)) (iw39 _ (List.mem_of_getElem? (i := 1) rfl)) (iw1 _ (List.mem_of_getElem? (i := 5) rfl)) (iw39 _ (List.mem_of_getElem? (i := 2) rfl))) rfl ⟨rfl, rfl⟩ (by decide +kernel) ⟨by decide, by decide⟩ (by decide) rfl rfl dX8_crowd_56 rfl rfl (Nat.le_of_ble_eq_true rfl) ?_
          refine ⟨_, _, _, rfl, by (try rw [(by rw [eh1]; rfl : h1 40 = hi 40)]); exact ⟨hpre.1, ⟨by omega, by omega⟩, ⟨by omega, by omega⟩, ⟨by omega, by omega⟩⟩, fun v15 ev15 => ?_⟩
          try rw [(by rw [eh1]; rfl : h1 40 = hi 40)] at ev15
          replace ev15 : v15 = (worA (hi 40) (hi 40 0)) m := ev15
          have b56 := wor_rng hpre.1 (h := m)
          replace b56 : 0 ≤ (worA (hi 40) (hi 40 0)) m ∧ (worA (hi 40) (hi 40 0)) m ≤ 4000 := b56
          refine z_icmp_le (pc := 59) (tgt := 67) dX8_crowd_59 (by decide) ⟨by omega, by omega⟩ ⟨by omega, by omega⟩ (fun c16 => ?_) (fun c16 => ?_)
          · refine z_iload_n (pc := 67) dX8_crowd_67 rfl 2 rfl ?_
            refine z_istore_n (pc := 68) (lv' := [(3, AI m), (2, AI k), (4, AI k), (0, AR 40), (1, AI y)]) dX8_crowd_68 rfl (by decide) rfl ?_
            refine z_iinc (pc := 69) (j := 2) (w := fun q => (4, AI q) :: [(3, AI m), (2, AI k), (0, AR 40), (1, AI y)]) dX8_crowd_69 rfl (by decide) (fun _ => rfl) (fun v17 ev17 => ?_)
            refine z_goto (pc := 72) (tgt := 12) dX8_crowd_72 (by decide) ?_
            exact ih12 v17 k m (by omega) (by first | exact amx_new (by omega) (by omega) (Or.inr i1) (Or.inr (by omega)) | exact amx_old (by omega) i1 (by omega)) (by first | exact amx_new (by omega) (by omega) (Or.inr i2) (Or.inr (by omega)) | exact amx_old (by omega) i2 (by omega)) (by omega) (by omega)
          · refine z_iload (pc := 62) dX8_crowd_62 1 rfl ?_
            refine z_goto (pc := 64) (tgt := 68) dX8_crowd_64 (by decide) ?_
            refine z_istore_n (pc := 68) (lv' := [(3, AI k), (2, AI k), (4, AI k), (0, AR 40), (1, AI y)]) dX8_crowd_68 rfl (by decide) rfl ?_
            refine z_iinc (pc := 69) (j := 2) (w := fun q => (4, AI q) :: [(3, AI k), (2, AI k), (0, AR 40), (1, AI y)]) dX8_crowd_69 rfl (by decide) (fun _ => rfl) (fun v18 ev18 => ?_)
            refine z_goto (pc := 72) (tgt := 12) dX8_crowd_72 (by decide) ?_
            exact ih12 v18 k k (by omega) (by first | exact amx_new (by omega) (by omega) (Or.inr i1) (Or.inr (by omega)) | exact amx_old (by omega) i1 (by omega)) (by first | exact amx_new (by omega) (by omega) (Or.inr i2) (Or.inr (by omega)) | exact amx_old (by omega) i2 (by omega)) (by omega) (by omega)
  exact J12 _ 1 0 0 (by omega) (amx_1 rfl rfl) (amx_1 rfl rfl) (by omega) (Nat.lt_succ_self _)

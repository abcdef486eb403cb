/-! the plain form's tokens -/
def fM (hi : HI) (j : Nat) : Int := hi 45 j % 256
def badH (hi : HI) (k : Int) : HI := if hi 39 15 = -1 then hput hi 39 (updI (updI (hi 39) 15 (hi 39 10)) 16 k) else hi
theorem bad_fin {hi h1 h2 : HI} {x k : Int} (w : h1 = hput hi 39 (updI (hi 39) 15 x)) (hx : x = hi 39 10) (e : h2 = hput h1 39 (updI (h1 39) 16 k)) (h0 : hi 39 15 = -1) : h2 = badH hi k := by
  unfold badH
  rw [if_pos h0, e, w, hput_same, hput_hput, hx]
abbrev kX8_byteAt : Kd := (cX8_byteAt, .code yX8_byteAt cX8_byteAt 2 (some .int) :: wsL_law0, rmL 1, RX8, (some .int), 2)
theorem ct_X8_byteAt : Ct kX8_byteAt yX8_byteAt (fun a hi Q => ∃ k : Int, a = [AR 40, AI k] ∧ (0 ≤ k ∧ (0 ≤ hi 39 9 ∧ hi 39 9 ≤ 600) ∧ inR k) ∧ ∀ v : Int, ((k < hi 39 9 ∧ v = hi 45 k.toNat % 256) ∨ (hi 39 9 ≤ k ∧ v = -1)) → Q (AI v) hi) := by
  refine Ct.of (ws' := _) (by decide +kernel) rfl rfl ?_
  intro a hi Q hT
  obtain ⟨k, rfl, hpre, hQ⟩ := hT
  refine ⟨Nat.le_of_ble_eq_true rfl, ?_⟩
  show Z kX8_byteAt Q 0 [(0, AR 40), (1, AI k)] [] hi
  refine z_iload_n (pc := 0) dX8_byteAt_0 rfl 1 rfl ?_
  refine z_aload_n (pc := 1) (x := 40) dX8_byteAt_1 rfl 0 rfl ?_
  refine z_getI (pc := 2) (pl := 39) (f := 9) (ci := 7) (C := RX8) (T := TX8) (N := 33) hu_X8 (by decide) rfl rfl (by decide) rfl (List.mem_cons_of_mem _ (iw27 _ (List.mem_of_getElem? (i := 9) rfl))) rfl (by decide) dX8_byteAt_2 (fun v1 ev1 rv1 => ?_)
  refine z_icmp_ge (pc := 5) (tgt := 21) dX8_byteAt_5 (by decide) ⟨by omega, by omega⟩ ⟨by omega, by omega⟩ (fun c2 => ?_) (fun c2 => ?_)
  · refine z_iconst (pc := 21) (v := (-1)) dX8_byteAt_21 rfl ?_
    refine z_iret (pc := 22) rfl dX8_byteAt_22 ?_
    exact hQ (-1) (by first | exact Or.inr ⟨by omega, rfl⟩ | exact Or.inl ⟨by omega, by rw [s17, w13]⟩)
  · refine z_aload_n (pc := 8) (x := 40) dX8_byteAt_8 rfl 0 rfl ?_
    refine z_getR (pc := 9) (pl := 39) (f := 7) (ci := 7) (C := RX8) (T := TX8) (N := 33) hu_X8 (by decide) rfl rfl (by decide) rfl (List.mem_cons_of_mem _ (iw5 _ (List.mem_of_getElem? (i := 11) rfl))) rfl dX8_byteAt_9 ?_
    refine z_iload_n (pc := 12) dX8_byteAt_12 rfl 1 rfl ?_
    refine z_bald (pc := 13) (pl := 45) (by decide) rfl (by decide) (by decide) (by omega) (by omega) dX8_byteAt_13 (fun v3 ev3 rv3 => ?_)
    have w13 := ev3
    refine z_sipush (pc := 14) (v := 255) dX8_byteAt_14 (by decide +kernel) ?_
    refine z_iand (pc := 17) dX8_byteAt_17 (fun v4 ev4 => ?_)
    have bv4 := toI_inR ev4
    have s17 := and255 ev4
    refine z_goto (pc := 18) (tgt := 22) dX8_byteAt_18 (by decide) ?_
    refine z_iret (pc := 22) rfl dX8_byteAt_22 ?_
    exact hQ v4 (by first | exact Or.inr ⟨by omega, rfl⟩ | exact Or.inl ⟨by omega, by rw [s17, w13]⟩)

abbrev kX8_bad : Kd := (cX8_bad, .code yX8_bad cX8_bad 2 (some .boolean) :: wsL_law0, rmL 1, RX8, (some .boolean), 2)
theorem ct_X8_bad : Ct kX8_bad yX8_bad (fun a hi Q => ∃ k : Int, a = [AR 40, AI k] ∧ (inR k) ∧ ∀ (v : Int) (h2 : HI), (Fr [39] hi h2 ∧ (v = 0 ∧ h2 = badH hi k)) → Q (AI v) h2) := by
  refine Ct.of (ws' := _) (by decide +kernel) rfl rfl ?_
  intro a hi Q hT
  obtain ⟨k, rfl, hpre, hQ⟩ := hT
  refine ⟨Nat.le_of_ble_eq_true rfl, ?_⟩
  show Z kX8_bad Q 0 [(0, AR 40), (1, AI k)] [] hi
  refine z_aload_n (pc := 0) (x := 40) dX8_bad_0 rfl 0 rfl ?_
  refine z_getI (pc := 1) (pl := 39) (f := 15) (ci := 7) (C := RX8) (T := TX8) (N := 33) hu_X8 (by decide) rfl rfl (by decide) rfl (List.mem_cons_of_mem _ (iw27 _ (List.mem_of_getElem? (i := 3) rfl))) rfl (by decide) dX8_bad_1 (fun v1 ev1 rv1 => ?_)
  refine z_iconst (pc := 4) (v := (-1)) dX8_bad_4 rfl ?_
  refine z_icmp_ne (pc := 5) (tgt := 21) dX8_bad_5 (by decide) ⟨by omega, by omega⟩ ⟨by decide, by decide⟩ (fun c2 => ?_) (fun c2 => ?_)
  · refine z_iconst (pc := 21) (v := 0) dX8_bad_21 rfl ?_
    refine z_zret (pc := 22) rfl (by decide) dX8_bad_22 ?_
    exact hQ 0 hi ⟨(Fr.rf), by first | exact ⟨rfl, (if_neg (by omega)).symm⟩ | exact ⟨rfl, bad_fin w13 (by omega) ehi (by omega)⟩⟩
  · refine z_aload_n (pc := 8) (x := 40) dX8_bad_8 rfl 0 rfl ?_
    refine z_aload_n (pc := 9) (x := 40) dX8_bad_9 rfl 0 rfl ?_
    refine z_getI (pc := 10) (pl := 39) (f := 10) (ci := 7) (C := RX8) (T := TX8) (N := 33) hu_X8 (by decide) rfl rfl (by decide) rfl (List.mem_cons_of_mem _ (iw27 _ (List.mem_of_getElem? (i := 15) rfl))) rfl (by decide) dX8_bad_10 (fun v3 ev3 rv3 => ?_)
    refine z_putI (pc := 13) (pl := 39) (f := 15) (ci := 7) (C := RX8) (T := TX8) (N := 33) hu_X8 tyX8_ok nmX8 (by decide) rfl rfl (by decide) rfl (List.mem_cons_of_mem _ (iw27 _ (List.mem_of_getElem? (i := 3) rfl))) rfl rfl (ty := .int) (by decide +kernel) rfl rfl ⟨by omega, by omega⟩ dX8_bad_13 (fun h4 eh4 => ?_)
    have frh4 : Fr [39] hi h4 := (Fr.put (Fr.rf) eh4 (by decide))
    have w13 := eh4
    refine z_aload_n (pc := 16) (x := 40) dX8_bad_16 rfl 0 rfl ?_
    refine z_iload_n (pc := 17) dX8_bad_17 rfl 1 rfl ?_
    refine z_putI (pc := 18) (pl := 39) (f := 16) (ci := 7) (C := RX8) (T := TX8) (N := 33) hu_X8 tyX8_ok nmX8 (by decide) rfl rfl (by decide) rfl (List.mem_cons_of_mem _ (iw29 _ (List.mem_of_getElem? (i := 12) rfl))) rfl rfl (ty := .int) (by decide +kernel) rfl rfl ⟨by omega, by omega⟩ dX8_bad_18 (fun h5 eh5 => ?_)
    have frh5 : Fr [39] hi h5 := (Fr.put frh4 eh5 (by decide))
    refine z_iconst (pc := 21) (v := 0) dX8_bad_21 rfl ?_
    refine z_zret (pc := 22) rfl (by decide) dX8_bad_22 ?_
    exact hQ 0 h5 ⟨frh5, by first | exact ⟨rfl, (if_neg (by omega)).symm⟩ | exact ⟨rfl, bad_fin w13 (by omega) eh5 (by omega)⟩⟩

abbrev kX8_is : Kd := (cX8_is, .code yX8_is cX8_is 3 (some .boolean) :: wsL_law0, rmL 1, RX8, (some .boolean), 3)
theorem ct_X8_is : Ct kX8_is yX8_is (fun a hi Q => ∃ x : Int, a = [AR 40, AL x] ∧ (inL x) ∧ ∀ v : Int, ((v = 1 ∧ (hi 39 12 = 1 ∧ hi 39 14 = x)) ∨ (v = 0 ∧ ¬ (hi 39 12 = 1 ∧ hi 39 14 = x))) → Q (AI v) hi) := by
  refine Ct.of (ws' := _) (by decide +kernel) rfl rfl ?_
  intro a hi Q hT
  obtain ⟨x, rfl, hpre, hQ⟩ := hT
  refine ⟨Nat.le_of_ble_eq_true rfl, ?_⟩
  show Z kX8_is Q 0 [(0, AR 40), (1, AL x)] [] hi
  refine z_aload_n (pc := 0) (x := 40) dX8_is_0 rfl 0 rfl ?_
  refine z_getI (pc := 1) (pl := 39) (f := 12) (ci := 7) (C := RX8) (T := TX8) (N := 33) hu_X8 (by decide) rfl rfl (by decide) rfl (List.mem_cons_of_mem _ (iw27 _ (List.mem_of_getElem? (i := 2) rfl))) rfl (by decide) dX8_is_1 (fun v1 ev1 rv1 => ?_)
  refine z_iconst (pc := 4) (v := 1) dX8_is_4 rfl ?_
  refine z_icmp_ne (pc := 5) (tgt := 21) dX8_is_5 (by decide) ⟨by omega, by omega⟩ ⟨by decide, by decide⟩ (fun c2 => ?_) (fun c2 => ?_)
  · refine z_iconst (pc := 21) (v := 0) dX8_is_21 rfl ?_
    refine z_zret (pc := 22) rfl (by decide) dX8_is_22 ?_
    exact hQ 0 (by omega)
  · refine z_aload_n (pc := 8) (x := 40) dX8_is_8 rfl 0 rfl ?_
    refine z_getL (pc := 9) (pl := 39) (f := 14) (ci := 7) (C := RX8) (T := TX8) (N := 33) hu_X8 (by decide) rfl rfl (by decide) rfl (List.mem_cons_of_mem _ (iw27 _ (List.mem_of_getElem? (i := 17) rfl))) rfl dX8_is_9 (fun v3 ev3 rv3 => ?_)
    refine z_lload_n (pc := 12) dX8_is_12 rfl 1 rfl ?_
    refine z_lcmp (pc := 13) dX8_is_13 ⟨by omega, by omega⟩ ⟨by omega, by omega⟩ (fun v4 ev4 => ?_)
    refine z_if_ne (pc := 14) (tgt := 21) dX8_is_14 (by decide) ⟨by omega, by omega⟩ (fun c5 => ?_) (fun c5 => ?_)
    · refine z_iconst (pc := 21) (v := 0) dX8_is_21 rfl ?_
      refine z_zret (pc := 22) rfl (by decide) dX8_is_22 ?_
      exact hQ 0 (by omega)
    · refine z_iconst (pc := 17) (v := 1) dX8_is_17 rfl ?_
      refine z_goto (pc := 18) (tgt := 22) dX8_is_18 (by decide) ?_
      refine z_zret (pc := 22) rfl (by decide) dX8_is_22 ?_
      exact hQ 1 (by omega)

abbrev kX8_isSign : Kd := (cX8_isSign, .code yX8_isSign cX8_isSign 2 (some .boolean) :: wsL_law0, rmL 1, RX8, (some .boolean), 2)
theorem ct_X8_isSign : Ct kX8_isSign yX8_isSign (fun a hi Q => ∃ x : Int, a = [AR 40, AI x] ∧ (inR x) ∧ ∀ v : Int, ((v = 1 ∧ (hi 39 12 = 3 ∧ hi 39 13 = x)) ∨ (v = 0 ∧ ¬ (hi 39 12 = 3 ∧ hi 39 13 = x))) → Q (AI v) hi) := by
  refine Ct.of (ws' := _) (by decide +kernel) rfl rfl ?_
  intro a hi Q hT
  obtain ⟨x, rfl, hpre, hQ⟩ := hT
  refine ⟨Nat.le_of_ble_eq_true rfl, ?_⟩
  show Z kX8_isSign Q 0 [(0, AR 40), (1, AI x)] [] hi
  refine z_aload_n (pc := 0) (x := 40) dX8_isSign_0 rfl 0 rfl ?_
  refine z_getI (pc := 1) (pl := 39) (f := 12) (ci := 7) (C := RX8) (T := TX8) (N := 33) hu_X8 (by decide) rfl rfl (by decide) rfl (List.mem_cons_of_mem _ (iw27 _ (List.mem_of_getElem? (i := 2) rfl))) rfl (by decide) dX8_isSign_1 (fun v1 ev1 rv1 => ?_)
  refine z_iconst (pc := 4) (v := 3) dX8_isSign_4 rfl ?_
  refine z_icmp_ne (pc := 5) (tgt := 20) dX8_isSign_5 (by decide) ⟨by omega, by omega⟩ ⟨by decide, by decide⟩ (fun c2 => ?_) (fun c2 => ?_)
  · refine z_iconst (pc := 20) (v := 0) dX8_isSign_20 rfl ?_
    refine z_zret (pc := 21) rfl (by decide) dX8_isSign_21 ?_
    exact hQ 0 (by omega)
  · refine z_aload_n (pc := 8) (x := 40) dX8_isSign_8 rfl 0 rfl ?_
    refine z_getI (pc := 9) (pl := 39) (f := 13) (ci := 7) (C := RX8) (T := TX8) (N := 33) hu_X8 (by decide) rfl rfl (by decide) rfl (List.mem_cons_of_mem _ (iw27 _ (List.mem_of_getElem? (i := 16) rfl))) rfl (by decide) dX8_isSign_9 (fun v3 ev3 rv3 => ?_)
    refine z_iload_n (pc := 12) dX8_isSign_12 rfl 1 rfl ?_
    refine z_icmp_ne (pc := 13) (tgt := 20) dX8_isSign_13 (by decide) ⟨by omega, by omega⟩ ⟨by omega, by omega⟩ (fun c4 => ?_) (fun c4 => ?_)
    · refine z_iconst (pc := 20) (v := 0) dX8_isSign_20 rfl ?_
      refine z_zret (pc := 21) rfl (by decide) dX8_isSign_21 ?_
      exact hQ 0 (by omega)
    · refine z_iconst (pc := 16) (v := 1) dX8_isSign_16 rfl ?_
      refine z_goto (pc := 17) (tgt := 21) dX8_isSign_17 (by decide) ?_
      refine z_zret (pc := 21) rfl (by decide) dX8_isSign_21 ?_
      exact hQ 1 (by omega)

/-! reading the tokens -/
def TI (hi : HI) : Prop := (0 ≤ hi 29 5 ∧ hi 29 5 ≤ 601) ∧ ∀ i : Int, 0 ≤ i → i < hi 29 5 → 0 ≤ hi 31 i.toNat ∧ hi 31 i.toNat < 41
abbrev inC (hi : HI) : Prop := 0 ≤ hi 29 6 ∧ hi 29 6 < hi 29 5 ∧ hi 29 6 ≤ 600
def sgn (hi : HI) : Int := if hi 29 7 = 0 ∧ inC hi then hi 31 (hi 29 6).toNat else 1
def valH (hi : HI) : Int := if inC hi then hi 33 (hi 29 6).toNat else 0
def pasH (hi : HI) : HI := if inC hi then hput hi 29 (updI (hi 29) 6 (hi 29 6 + 1)) else hi
def faiH (hi : HI) (k : Int) : HI := if hi 29 7 = 0 then hput hi 29 (updI (updI (hi 29) 7 k) 8 (if 0 ≤ hi 29 6 ∧ hi 29 6 ≤ 600 then hi 32 (hi 29 6).toNat else 0)) else hi
theorem fai_fin {hi h1 h2 : HI} {k x : Int} (w9 : h1 = hput hi 29 (updI (hi 29) 7 k)) (_h : hi 29 7 = 0) (e : h2 = hput h1 29 (updI (h1 29) 8 x)) (hx : x = if 0 ≤ hi 29 6 ∧ hi 29 6 ≤ 600 then hi 32 (hi 29 6).toNat else 0) : h2 = hput hi 29 (updI (updI (hi 29) 7 k) 8 (if 0 ≤ hi 29 6 ∧ hi 29 6 ≤ 600 then hi 32 (hi 29 6).toNat else 0)) := by
  rw [e, w9, hput_same, hput_hput, hx]
abbrev kX6_cursor : Kd := (cX6_cursor, .code yX6_cursor cX6_cursor 1 (some .int) :: wsL_law0, rmL 1, RX6, (some .int), 1)
theorem ct_X6_cursor : Ct kX6_cursor yX6_cursor (fun a hi Q => a = [AR 30] ∧ (True) ∧ ∀ v : Int, (v = hi 29 6 ∧ inR v) → Q (AI v) hi) := by
  refine Ct.of (ws' := _) (by decide +kernel) rfl rfl ?_
  intro a hi Q hT
  obtain ⟨rfl, hpre, hQ⟩ := hT
  refine ⟨Nat.le_of_ble_eq_true rfl, ?_⟩
  show Z kX6_cursor Q 0 [(0, AR 30)] [] hi
  refine z_aload_n (pc := 0) (x := 30) dX6_cursor_0 rfl 0 rfl ?_
  refine z_getI (pc := 1) (pl := 29) (f := 6) (ci := 5) (C := RX6) (T := TX6) (N := 9) hu_X6 (by decide) rfl rfl (by decide) rfl (List.mem_cons_of_mem _ (iw3 _ (List.mem_of_getElem? (i := 20) rfl))) rfl (by decide) dX6_cursor_1 (fun v1 ev1 rv1 => ?_)
  refine z_iret (pc := 4) rfl dX6_cursor_4 ?_
  exact hQ v1 (⟨ev1, rv1⟩)

abbrev kX6_faultKind : Kd := (cX6_faultKind, .code yX6_faultKind cX6_faultKind 1 (some .int) :: wsL_law0, rmL 1, RX6, (some .int), 1)
theorem ct_X6_faultKind : Ct kX6_faultKind yX6_faultKind (fun a hi Q => a = [AR 30] ∧ (True) ∧ ∀ v : Int, (v = hi 29 7 ∧ inR v) → Q (AI v) hi) := by
  refine Ct.of (ws' := _) (by decide +kernel) rfl rfl ?_
  intro a hi Q hT
  obtain ⟨rfl, hpre, hQ⟩ := hT
  refine ⟨Nat.le_of_ble_eq_true rfl, ?_⟩
  show Z kX6_faultKind Q 0 [(0, AR 30)] [] hi
  refine z_aload_n (pc := 0) (x := 30) dX6_faultKind_0 rfl 0 rfl ?_
  refine z_getI (pc := 1) (pl := 29) (f := 7) (ci := 5) (C := RX6) (T := TX6) (N := 9) hu_X6 (by decide) rfl rfl (by decide) rfl (List.mem_cons_of_mem _ (iw3 _ (List.mem_of_getElem? (i := 21) rfl))) rfl (by decide) dX6_faultKind_1 (fun v1 ev1 rv1 => ?_)
  refine z_iret (pc := 4) rfl dX6_faultKind_4 ?_
  exact hQ v1 (⟨ev1, rv1⟩)

abbrev kX6_faultPlace : Kd := (cX6_faultPlace, .code yX6_faultPlace cX6_faultPlace 1 (some .int) :: wsL_law0, rmL 1, RX6, (some .int), 1)
theorem ct_X6_faultPlace : Ct kX6_faultPlace yX6_faultPlace (fun a hi Q => a = [AR 30] ∧ (True) ∧ ∀ v : Int, (v = hi 29 8 ∧ inR v) → Q (AI v) hi) := by
  refine Ct.of (ws' := _) (by decide +kernel) rfl rfl ?_
  intro a hi Q hT
  obtain ⟨rfl, hpre, hQ⟩ := hT
  refine ⟨Nat.le_of_ble_eq_true rfl, ?_⟩
  show Z kX6_faultPlace Q 0 [(0, AR 30)] [] hi
  refine z_aload_n (pc := 0) (x := 30) dX6_faultPlace_0 rfl 0 rfl ?_
  refine z_getI (pc := 1) (pl := 29) (f := 8) (ci := 5) (C := RX6) (T := TX6) (N := 9) hu_X6 (by decide) rfl rfl (by decide) rfl (List.mem_cons_of_mem _ (iw3 _ (List.mem_of_getElem? (i := 22) rfl))) rfl (by decide) dX6_faultPlace_1 (fun v1 ev1 rv1 => ?_)
  refine z_iret (pc := 4) rfl dX6_faultPlace_4 ?_
  exact hQ v1 (⟨ev1, rv1⟩)

abbrev kX6_goTo : Kd := (cX6_goTo, .code yX6_goTo cX6_goTo 2 none :: wsL_law0, rmL 1, RX6, none, 2)
theorem ct_X6_goTo : Ct kX6_goTo yX6_goTo (fun a hi Q => ∃ x : Int, a = [AR 30, AI x] ∧ (inR x) ∧ ∀ h2 : HI, (Fr [29] hi h2 ∧ (h2 = hput hi 29 (updI (hi 29) 6 x))) → Q AU h2) := by
  refine Ct.of (ws' := _) (by decide +kernel) rfl rfl ?_
  intro a hi Q hT
  obtain ⟨x, rfl, hpre, hQ⟩ := hT
  refine ⟨Nat.le_of_ble_eq_true rfl, ?_⟩
  show Z kX6_goTo Q 0 [(0, AR 30), (1, AI x)] [] hi
  refine z_aload_n (pc := 0) (x := 30) dX6_goTo_0 rfl 0 rfl ?_
  refine z_iload_n (pc := 1) dX6_goTo_1 rfl 1 rfl ?_
  refine z_putI (pc := 2) (pl := 29) (f := 6) (ci := 5) (C := RX6) (T := TX6) (N := 9) hu_X6 tyX6_ok nmX6 (by decide) rfl rfl (by decide) rfl (List.mem_cons_of_mem _ (iw3 _ (List.mem_of_getElem? (i := 20) rfl))) rfl rfl (ty := .int) (by decide +kernel) rfl rfl ⟨by omega, by omega⟩ dX6_goTo_2 (fun h1 eh1 => ?_)
  have frh1 : Fr [29] hi h1 := (Fr.put (Fr.rf) eh1 (by decide))
  refine z_vret (pc := 5) rfl dX6_goTo_5 ?_
  exact hQ h1 ⟨frh1, eh1⟩

abbrev kX6_sign : Kd := (cX6_sign, .code yX6_sign cX6_sign 1 (some (.object "LateSet$Sign")) :: wsL_law0, rmL 1, RX6, (some (.object "LateSet$Sign")), 1)
theorem ct_X6_sign : Ct kX6_sign yX6_sign (fun a hi Q => a = [AR 30] ∧ (TI hi) ∧ ∀ v : Int, (v = sgn hi ∧ 0 ≤ v ∧ v < 41) → Q (AR (ec v)) hi) := by
  refine Ct.of (ws' := _) (by decide +kernel) rfl rfl ?_
  intro a hi Q hT
  obtain ⟨rfl, hpre, hQ⟩ := hT
  refine ⟨Nat.le_of_ble_eq_true rfl, ?_⟩
  show Z kX6_sign Q 0 [(0, AR 30)] [] hi
  refine z_aload_n (pc := 0) (x := 30) dX6_sign_0 rfl 0 rfl ?_
  refine z_getI (pc := 1) (pl := 29) (f := 7) (ci := 5) (C := RX6) (T := TX6) (N := 9) hu_X6 (by decide) rfl rfl (by decide) rfl (List.mem_cons_of_mem _ (iw3 _ (List.mem_of_getElem? (i := 21) rfl))) rfl (by decide) dX6_sign_1 (fun v1 ev1 rv1 => ?_)
  refine z_if_ne (pc := 4) (tgt := 35) dX6_sign_4 (by decide) ⟨by omega, by omega⟩ (fun c2 => ?_) (fun c2 => ?_)
  · refine z_getstE (pc := 35) (i := 1) (z := 1) (by decide) rfl (List.mem_cons_of_mem _ (iw18 _ (List.mem_of_getElem? (i := 15) rfl))) dX6_sign_35 ?_
    refine z_aret (pc := 38) rfl dX6_sign_38 ?_
    exact hQ 1 (by have t := hpre.1; exact ⟨(if_neg (by omega)).symm, by decide, by decide⟩)
  · refine z_aload_n (pc := 7) (x := 30) dX6_sign_7 rfl 0 rfl ?_
    refine z_getI (pc := 8) (pl := 29) (f := 6) (ci := 5) (C := RX6) (T := TX6) (N := 9) hu_X6 (by decide) rfl rfl (by decide) rfl (List.mem_cons_of_mem _ (iw3 _ (List.mem_of_getElem? (i := 20) rfl))) rfl (by decide) dX6_sign_8 (fun v3 ev3 rv3 => ?_)
    refine z_if_lt (pc := 11) (tgt := 35) dX6_sign_11 (by decide) ⟨by omega, by omega⟩ (fun c4 => ?_) (fun c4 => ?_)
    · refine z_getstE (pc := 35) (i := 1) (z := 1) (by decide) rfl (List.mem_cons_of_mem _ (iw18 _ (List.mem_of_getElem? (i := 15) rfl))) dX6_sign_35 ?_
      refine z_aret (pc := 38) rfl dX6_sign_38 ?_
      exact hQ 1 (by have t := hpre.1; exact ⟨(if_neg (by omega)).symm, by decide, by decide⟩)
    · refine z_aload_n (pc := 14) (x := 30) dX6_sign_14 rfl 0 rfl ?_
      refine z_getI (pc := 15) (pl := 29) (f := 6) (ci := 5) (C := RX6) (T := TX6) (N := 9) hu_X6 (by decide) rfl rfl (by decide) rfl (List.mem_cons_of_mem _ (iw3 _ (List.mem_of_getElem? (i := 20) rfl))) rfl (by decide) dX6_sign_15 (fun v5 ev5 rv5 => ?_)
      refine z_aload_n (pc := 18) (x := 30) dX6_sign_18 rfl 0 rfl ?_
      refine z_getI (pc := 19) (pl := 29) (f := 5) (ci := 5) (C := RX6) (T := TX6) (N := 9) hu_X6 (by decide) rfl rfl (by decide) rfl (List.mem_cons_of_mem _ (iw3 _ (List.mem_of_getElem? (i := 19) rfl))) rfl (by decide) dX6_sign_19 (fun v6 ev6 rv6 => ?_)
      refine z_icmp_ge (pc := 22) (tgt := 35) dX6_sign_22 (by decide) ⟨by omega, by omega⟩ ⟨by omega, by omega⟩ (fun c7 => ?_) (fun c7 => ?_)
      · refine z_getstE (pc := 35) (i := 1) (z := 1) (by decide) rfl (List.mem_cons_of_mem _ (iw18 _ (List.mem_of_getElem? (i := 15) rfl))) dX6_sign_35 ?_
        refine z_aret (pc := 38) rfl dX6_sign_38 ?_
        exact hQ 1 (by have t := hpre.1; exact ⟨(if_neg (by omega)).symm, by decide, by decide⟩)
      · refine z_aload_n (pc := 25) (x := 30) dX6_sign_25 rfl 0 rfl ?_
        refine z_getI (pc := 26) (pl := 29) (f := 6) (ci := 5) (C := RX6) (T := TX6) (N := 9) hu_X6 (by decide) rfl rfl (by decide) rfl (List.mem_cons_of_mem _ (iw3 _ (List.mem_of_getElem? (i := 20) rfl))) rfl (by decide) dX6_sign_26 (fun v8 ev8 rv8 => ?_)
        refine z_sipush (pc := 29) (v := 600) dX6_sign_29 (by decide +kernel) ?_
        refine z_icmp_le (pc := 32) (tgt := 39) dX6_sign_32 (by decide) ⟨by omega, by omega⟩ ⟨by decide, by decide⟩ (fun c9 => ?_) (fun c9 => ?_)
        · refine z_aload_n (pc := 39) (x := 30) dX6_sign_39 rfl 0 rfl ?_
          refine z_getR (pc := 40) (pl := 29) (f := 2) (ci := 5) (C := RX6) (T := TX6) (N := 9) hu_X6 (by decide) rfl rfl (by decide) rfl (List.mem_cons_of_mem _ (iw3 _ (List.mem_of_getElem? (i := 16) rfl))) rfl dX6_sign_40 ?_
          refine z_aload_n (pc := 43) (x := 30) dX6_sign_43 rfl 0 rfl ?_
          refine z_getI (pc := 44) (pl := 29) (f := 6) (ci := 5) (C := RX6) (T := TX6) (N := 9) hu_X6 (by decide) rfl rfl (by decide) rfl (List.mem_cons_of_mem _ (iw3 _ (List.mem_of_getElem? (i := 20) rfl))) rfl (by decide) dX6_sign_44 (fun v10 ev10 rv10 => ?_)
          refine z_aldE (pc := 47) (pl := 31) (by decide) rfl (by decide) (by omega) (by omega) dX6_sign_47 (fun v11 ev11 => ?_)
          refine z_aret (pc := 48) rfl dX6_sign_48 ?_
          exact hQ v11 (by have t := hpre.1; have tt := hpre.2 (hi 29 6) (by omega) (by omega); have e6 := ev11.trans (congrArg (fun z : Int => hi 31 z.toNat) (by assumption)); exact ⟨e6.trans (if_pos (by omega)).symm, by rw [e6]; exact tt.1, by rw [e6]; exact tt.2⟩)
        · refine z_getstE (pc := 35) (i := 1) (z := 1) (by decide) rfl (List.mem_cons_of_mem _ (iw18 _ (List.mem_of_getElem? (i := 15) rfl))) dX6_sign_35 ?_
          refine z_aret (pc := 38) rfl dX6_sign_38 ?_
          exact hQ 1 (by have t := hpre.1; exact ⟨(if_neg (by omega)).symm, by decide, by decide⟩)

abbrev kX6_pass : Kd := (cX6_pass, .code yX6_pass cX6_pass 2 (some .int) :: wsL_law0, rmL 1, RX6, (some .int), 2)
theorem ct_X6_pass : Ct kX6_pass yX6_pass (fun a hi Q => a = [AR 30] ∧ (TI hi) ∧ ∀ (v : Int) (h2 : HI), (Fr [29] hi h2 ∧ (v = valH hi ∧ h2 = pasH hi)) → Q (AI v) h2) := by
  refine Ct.of (ws' := _) (by decide +kernel) rfl rfl ?_
  intro a hi Q hT
  obtain ⟨rfl, hpre, hQ⟩ := hT
  refine ⟨Nat.le_of_ble_eq_true rfl, ?_⟩
  show Z kX6_pass Q 0 [(0, AR 30)] [] hi
  refine z_aload_n (pc := 0) (x := 30) dX6_pass_0 rfl 0 rfl ?_
  refine z_getI (pc := 1) (pl := 29) (f := 6) (ci := 5) (C := RX6) (T := TX6) (N := 9) hu_X6 (by decide) rfl rfl (by decide) rfl (List.mem_cons_of_mem _ (iw3 _ (List.mem_of_getElem? (i := 20) rfl))) rfl (by decide) dX6_pass_1 (fun v1 ev1 rv1 => ?_)
  refine z_if_lt (pc := 4) (tgt := 28) dX6_pass_4 (by decide) ⟨by omega, by omega⟩ (fun c2 => ?_) (fun c2 => ?_)
  · refine z_iconst (pc := 28) (v := 0) dX6_pass_28 rfl ?_
    refine z_iret (pc := 29) rfl dX6_pass_29 ?_
    exact hQ 0 hi ⟨(Fr.rf), (if_neg (by omega)).symm, (if_neg (by omega)).symm⟩
  · refine z_aload_n (pc := 7) (x := 30) dX6_pass_7 rfl 0 rfl ?_
    refine z_getI (pc := 8) (pl := 29) (f := 6) (ci := 5) (C := RX6) (T := TX6) (N := 9) hu_X6 (by decide) rfl rfl (by decide) rfl (List.mem_cons_of_mem _ (iw3 _ (List.mem_of_getElem? (i := 20) rfl))) rfl (by decide) dX6_pass_8 (fun v3 ev3 rv3 => ?_)
    refine z_aload_n (pc := 11) (x := 30) dX6_pass_11 rfl 0 rfl ?_
    refine z_getI (pc := 12) (pl := 29) (f := 5) (ci := 5) (C := RX6) (T := TX6) (N := 9) hu_X6 (by decide) rfl rfl (by decide) rfl (List.mem_cons_of_mem _ (iw3 _ (List.mem_of_getElem? (i := 19) rfl))) rfl (by decide) dX6_pass_12 (fun v4 ev4 rv4 => ?_)
    refine z_icmp_ge (pc := 15) (tgt := 28) dX6_pass_15 (by decide) ⟨by omega, by omega⟩ ⟨by omega, by omega⟩ (fun c5 => ?_) (fun c5 => ?_)
    · refine z_iconst (pc := 28) (v := 0) dX6_pass_28 rfl ?_
      refine z_iret (pc := 29) rfl dX6_pass_29 ?_
      exact hQ 0 hi ⟨(Fr.rf), (if_neg (by omega)).symm, (if_neg (by omega)).symm⟩
    · refine z_aload_n (pc := 18) (x := 30) dX6_pass_18 rfl 0 rfl ?_
      refine z_getI (pc := 19) (pl := 29) (f := 6) (ci := 5) (C := RX6) (T := TX6) (N := 9) hu_X6 (by decide) rfl rfl (by decide) rfl (List.mem_cons_of_mem _ (iw3 _ (List.mem_of_getElem? (i := 20) rfl))) rfl (by decide) dX6_pass_19 (fun v6 ev6 rv6 => ?_)
      refine z_sipush (pc := 22) (v := 600) dX6_pass_22 (by decide +kernel) ?_
      refine z_icmp_le (pc := 25) (tgt := 30) dX6_pass_25 (by decide) ⟨by omega, by omega⟩ ⟨by decide, by decide⟩ (fun c7 => ?_) (fun c7 => ?_)
      · refine z_aload_n (pc := 30) (x := 30) dX6_pass_30 rfl 0 rfl ?_
        refine z_getR (pc := 31) (pl := 29) (f := 4) (ci := 5) (C := RX6) (T := TX6) (N := 9) hu_X6 (by decide) rfl rfl (by decide) rfl (List.mem_cons_of_mem _ (iw3 _ (List.mem_of_getElem? (i := 18) rfl))) rfl dX6_pass_31 ?_
        refine z_aload_n (pc := 34) (x := 30) dX6_pass_34 rfl 0 rfl ?_
        refine z_getI (pc := 35) (pl := 29) (f := 6) (ci := 5) (C := RX6) (T := TX6) (N := 9) hu_X6 (by decide) rfl rfl (by decide) rfl (List.mem_cons_of_mem _ (iw3 _ (List.mem_of_getElem? (i := 20) rfl))) rfl (by decide) dX6_pass_35 (fun v8 ev8 rv8 => ?_)
        refine z_iald (pc := 38) (pl := 33) (by decide) rfl (by decide) (by decide) (by omega) (by omega) dX6_pass_38 (fun v9 ev9 rv9 => ?_)
        have w38 := ev9
        refine z_istore_n (pc := 39) (lv' := [(1, AI v9), (0, AR 30)]) dX6_pass_39 rfl (by decide) rfl ?_
        refine z_aload_n (pc := 40) (x := 30) dX6_pass_40 rfl 1 rfl ?_
        refine z_dup (pc := 41) dX6_pass_41 rfl ?_
        refine z_getI (pc := 42) (pl := 29) (f := 6) (ci := 5) (C := RX6) (T := TX6) (N := 9) hu_X6 (by decide) rfl rfl (by decide) rfl (List.mem_cons_of_mem _ (iw3 _ (List.mem_of_getElem? (i := 20) rfl))) rfl (by decide) dX6_pass_42 (fun v10 ev10 rv10 => ?_)
        refine z_iconst (pc := 45) (v := 1) dX6_pass_45 rfl ?_
        refine z_iadd (pc := 46) dX6_pass_46 (fun v11 ev11 => ?_)
        refine z_putI (pc := 47) (pl := 29) (f := 6) (ci := 5) (C := RX6) (T := TX6) (N := 9) hu_X6 tyX6_ok nmX6 (by decide) rfl rfl (by decide) rfl (List.mem_cons_of_mem _ (iw3 _ (List.mem_of_getElem? (i := 20) rfl))) rfl rfl (ty := .int) (by decide +kernel) rfl rfl ⟨by omega, by omega⟩ dX6_pass_47 (fun h12 eh12 => ?_)
        have frh12 : Fr [29] hi h12 := (Fr.put (Fr.rf) eh12 (by decide))
        have w47 := eh12
        refine z_iload_n (pc := 50) dX6_pass_50 rfl 0 rfl ?_
        refine z_iret (pc := 51) rfl dX6_pass_51 ?_
        exact hQ v9 h12 ⟨frh12, (w38.trans (congrArg (fun z : Int => hi 33 z.toNat) (by assumption))).trans (if_pos (by omega)).symm, by rw [w47]; unfold pasH; rw [if_pos (by omega)]; congr 2; omega⟩
      · refine z_iconst (pc := 28) (v := 0) dX6_pass_28 rfl ?_
        refine z_iret (pc := 29) rfl dX6_pass_29 ?_
        exact hQ 0 hi ⟨(Fr.rf), (if_neg (by omega)).symm, (if_neg (by omega)).symm⟩

abbrev kX6_fail : Kd := (cX6_fail, .code yX6_fail cX6_fail 2 none :: wsL_law0, rmL 1, RX6, none, 2)
theorem ct_X6_fail : Ct kX6_fail yX6_fail (fun a hi Q => ∃ k : Int, a = [AR 30, AI k] ∧ (inR k) ∧ ∀ h2 : HI, (Fr [29] hi h2 ∧ (h2 = faiH hi k)) → Q AU h2) := by
  refine Ct.of (ws' := _) (by decide +kernel) rfl rfl ?_
  intro a hi Q hT
  obtain ⟨k, rfl, hpre, hQ⟩ := hT
  refine ⟨Nat.le_of_ble_eq_true rfl, ?_⟩
  show Z kX6_fail Q 0 [(0, AR 30), (1, AI k)] [] hi
  refine z_aload_n (pc := 0) (x := 30) dX6_fail_0 rfl 0 rfl ?_
  refine z_getI (pc := 1) (pl := 29) (f := 7) (ci := 5) (C := RX6) (T := TX6) (N := 9) hu_X6 (by decide) rfl rfl (by decide) rfl (List.mem_cons_of_mem _ (iw3 _ (List.mem_of_getElem? (i := 21) rfl))) rfl (by decide) dX6_fail_1 (fun v1 ev1 rv1 => ?_)
  refine z_if_ne (pc := 4) (tgt := 46) dX6_fail_4 (by decide) ⟨by omega, by omega⟩ (fun c2 => ?_) (fun c2 => ?_)
  · refine z_vret (pc := 46) rfl dX6_fail_46 ?_
    exact hQ hi ⟨(Fr.rf), by first | exact (if_neg (by omega)).symm | exact (fai_fin w9 (by omega) ehi (by first | exact (if_neg (by omega)).symm | exact (w42.trans (congrArg (fun z : Int => hi 32 z.toNat) (by assumption))).trans (if_pos (by omega)).symm)).trans (if_pos (by omega)).symm⟩
  · refine z_aload_n (pc := 7) (x := 30) dX6_fail_7 rfl 0 rfl ?_
    refine z_iload_n (pc := 8) dX6_fail_8 rfl 1 rfl ?_
    refine z_putI (pc := 9) (pl := 29) (f := 7) (ci := 5) (C := RX6) (T := TX6) (N := 9) hu_X6 tyX6_ok nmX6 (by decide) rfl rfl (by decide) rfl (List.mem_cons_of_mem _ (iw3 _ (List.mem_of_getElem? (i := 21) rfl))) rfl rfl (ty := .int) (by decide +kernel) rfl rfl ⟨by omega, by omega⟩ dX6_fail_9 (fun h3 eh3 => ?_)
    have frh3 : Fr [29] hi h3 := (Fr.put (Fr.rf) eh3 (by decide))
    have w9 := eh3
    refine z_aload_n (pc := 12) (x := 30) dX6_fail_12 rfl 0 rfl ?_
    refine z_aload_n (pc := 13) (x := 30) dX6_fail_13 rfl 0 rfl ?_
    refine z_getI (pc := 14) (pl := 29) (f := 6) (ci := 5) (C := RX6) (T := TX6) (N := 9) hu_X6 (by decide) rfl rfl (by decide) rfl (List.mem_cons_of_mem _ (iw3 _ (List.mem_of_getElem? (i := 20) rfl))) rfl (by decide) dX6_fail_14 (fun v4 ev4 rv4 => ?_)
    rw [(by rw [eh3]; rfl : h3 29 6 = hi 29 6)] at ev4
    refine z_if_lt (pc := 17) (tgt := 30) dX6_fail_17 (by decide) ⟨by omega, by omega⟩ (fun c5 => ?_) (fun c5 => ?_)
    · refine z_iconst (pc := 30) (v := 0) dX6_fail_30 rfl ?_
      refine z_goto (pc := 31) (tgt := 43) dX6_fail_31 (by decide) ?_
      refine z_putI (pc := 43) (pl := 29) (f := 8) (ci := 5) (C := RX6) (T := TX6) (N := 9) hu_X6 tyX6_ok nmX6 (by decide) rfl rfl (by decide) rfl (List.mem_cons_of_mem _ (iw3 _ (List.mem_of_getElem? (i := 22) rfl))) rfl rfl (ty := .int) (by decide +kernel) rfl rfl ⟨by decide, by decide⟩ dX6_fail_43 (fun h6 eh6 => ?_)
      have frh6 : Fr [29] hi h6 := (Fr.put frh3 eh6 (by decide))
      refine z_vret (pc := 46) rfl dX6_fail_46 ?_
      exact hQ h6 ⟨frh6, by first | exact (if_neg (by omega)).symm | exact (fai_fin w9 (by omega) eh6 (by first | exact (if_neg (by omega)).symm | exact (w42.trans (congrArg (fun z : Int => hi 32 z.toNat) (by assumption))).trans (if_pos (by omega)).symm)).trans (if_pos (by omega)).symm⟩
    · refine z_aload_n (pc := 20) (x := 30) dX6_fail_20 rfl 0 rfl ?_
      refine z_getI (pc := 21) (pl := 29) (f := 6) (ci := 5) (C := RX6) (T := TX6) (N := 9) hu_X6 (by decide) rfl rfl (by decide) rfl (List.mem_cons_of_mem _ (iw3 _ (List.mem_of_getElem? (i := 20) rfl))) rfl (by decide) dX6_fail_21 (fun v7 ev7 rv7 => ?_)
      rw [(by rw [eh3]; rfl : h3 29 6 = hi 29 6)] at ev7
      refine z_sipush (pc := 24) (v := 600) dX6_fail_24 (by decide +kernel) ?_
      refine z_icmp_le (pc := 27) (tgt := 34) dX6_fail_27 (by decide) ⟨by omega, by omega⟩ ⟨by decide, by decide⟩ (fun c8 => ?_) (fun c8 => ?_)
      · refine z_aload_n (pc := 34) (x := 30) dX6_fail_34 rfl 0 rfl ?_
        refine z_getR (pc := 35) (pl := 29) (f := 3) (ci := 5) (C := RX6) (T := TX6) (N := 9) hu_X6 (by decide) rfl rfl (by decide) rfl (List.mem_cons_of_mem _ (iw3 _ (List.mem_of_getElem? (i := 17) rfl))) rfl dX6_fail_35 ?_
        refine z_aload_n (pc := 38) (x := 30) dX6_fail_38 rfl 0 rfl ?_
        refine z_getI (pc := 39) (pl := 29) (f := 6) (ci := 5) (C := RX6) (T := TX6) (N := 9) hu_X6 (by decide) rfl rfl (by decide) rfl (List.mem_cons_of_mem _ (iw3 _ (List.mem_of_getElem? (i := 20) rfl))) rfl (by decide) dX6_fail_39 (fun v9 ev9 rv9 => ?_)
        rw [(by rw [eh3]; rfl : h3 29 6 = hi 29 6)] at ev9
        refine z_iald (pc := 42) (pl := 32) (by decide) rfl (by decide) (by decide) (by omega) (by omega) dX6_fail_42 (fun v10 ev10 rv10 => ?_)
        rw [(by rw [eh3]; rfl : h3 32 = hi 32)] at ev10
        have w42 := ev10
        refine z_putI (pc := 43) (pl := 29) (f := 8) (ci := 5) (C := RX6) (T := TX6) (N := 9) hu_X6 tyX6_ok nmX6 (by decide) rfl rfl (by decide) rfl (List.mem_cons_of_mem _ (iw3 _ (List.mem_of_getElem? (i := 22) rfl))) rfl rfl (ty := .int) (by decide +kernel) rfl rfl ⟨by omega, by omega⟩ dX6_fail_43 (fun h11 eh11 => ?_)
        have frh11 : Fr [29] hi h11 := (Fr.put frh3 eh11 (by decide))
        refine z_vret (pc := 46) rfl dX6_fail_46 ?_
        exact hQ h11 ⟨frh11, by first | exact (if_neg (by omega)).symm | exact (fai_fin w9 (by omega) eh11 (by first | exact (if_neg (by omega)).symm | exact (w42.trans (congrArg (fun z : Int => hi 32 z.toNat) (by assumption))).trans (if_pos (by omega)).symm)).trans (if_pos (by omega)).symm⟩
      · refine z_iconst (pc := 30) (v := 0) dX6_fail_30 rfl ?_
        refine z_goto (pc := 31) (tgt := 43) dX6_fail_31 (by decide) ?_
        refine z_putI (pc := 43) (pl := 29) (f := 8) (ci := 5) (C := RX6) (T := TX6) (N := 9) hu_X6 tyX6_ok nmX6 (by decide) rfl rfl (by decide) rfl (List.mem_cons_of_mem _ (iw3 _ (List.mem_of_getElem? (i := 22) rfl))) rfl rfl (ty := .int) (by decide +kernel) rfl rfl ⟨by decide, by decide⟩ dX6_fail_43 (fun h12 eh12 => ?_)
        have frh12 : Fr [29] hi h12 := (Fr.put frh3 eh12 (by decide))
        refine z_vret (pc := 46) rfl dX6_fail_46 ?_
        exact hQ h12 ⟨frh12, by first | exact (if_neg (by omega)).symm | exact (fai_fin w9 (by omega) eh12 (by first | exact (if_neg (by omega)).symm | exact (w42.trans (congrArg (fun z : Int => hi 32 z.toNat) (by assumption))).trans (if_pos (by omega)).symm)).trans (if_pos (by omega)).symm⟩

abbrev kX6_takes : Kd := (cX6_takes, .code yX6_takes cX6_takes 2 (some .boolean) :: wsL_law0, rmL 2, RX6, (some .boolean), 2)
theorem ct_X6_takes : Ct kX6_takes yX6_takes (fun a hi Q => ∃ s : Int, a = [AR 30, AR (ec s)] ∧ (TI hi ∧ (0 ≤ s ∧ s < 41)) ∧ ∀ (v : Int) (h2 : HI), (Fr [29] hi h2 ∧ ((sgn hi = s ∧ v = 1 ∧ h2 = pasH hi) ∨ (sgn hi ≠ s ∧ v = 0 ∧ h2 = hi))) → Q (AI v) h2) := by
  refine Ct.of (ws' := _) (by decide +kernel) rfl rfl ?_
  intro a hi Q hT
  obtain ⟨s, rfl, hpre, hQ⟩ := hT
  refine ⟨Nat.le_of_ble_eq_true rfl, ?_⟩
  show Z kX6_takes Q 0 [(0, AR 30), (1, AR (ec s))] [] hi
  refine z_aload_n (pc := 0) (x := 30) dX6_takes_0 rfl 0 rfl ?_
  refine z_callV (pc := 1) (kc := kX6_sign) (n := 0) (pl := 29) (ci := 5) (C := RX6) (As := []) (stk := []) ct_X6_sign (gdV rfl rfl (iw23 _ (List.mem_of_getElem? (i := 3) rfl)) (iw22 _ (List.mem_of_getElem? (i := 10) rfl)) (iw22 _ (List.mem_of_getElem? (i := 11) rfl)) (iw2 _ (List.mem_of_getElem? (i := 4) rfl)) (iw22 _ (List.mem_of_getElem? (i := 12) rfl))) rfl ⟨rfl, rfl⟩ (by decide +kernel) ⟨by decide, by decide⟩ (by decide) rfl rfl dX6_takes_1 rfl rfl (Nat.le_of_ble_eq_true rfl) ?_
  refine ⟨rfl, hpre.1, fun v1 ev1 => ?_⟩
  refine z_aload_n (pc := 4) (x := (ec s)) dX6_takes_4 rfl 1 rfl ?_
  refine z_acmp_eq (pc := 5) (tgt := 10) dX6_takes_5 (by decide) (by omega) (by omega) (fun c2 => ?_) (fun c2 => ?_)
  · refine z_aload_n (pc := 10) (x := 30) dX6_takes_10 rfl 0 rfl ?_
    refine z_callV (pc := 11) (kc := kX6_pass) (n := 0) (pl := 29) (ci := 5) (C := RX6) (As := []) (stk := []) ct_X6_pass (gdV rfl rfl (iw23 _ (List.mem_of_getElem? (i := 4) rfl)) (iw23 _ (List.mem_of_getElem? (i := 5) rfl)) (iw23 _ (List.mem_of_getElem? (i := 6) rfl)) (iw2 _ (List.mem_of_getElem? (i := 4) rfl)) (iw23 _ (List.mem_of_getElem? (i := 7) rfl))) rfl ⟨rfl, rfl⟩ (by decide +kernel) ⟨by decide, by decide⟩ (by decide) rfl rfl dX6_takes_11 rfl rfl (Nat.le_of_ble_eq_true rfl) ?_
    refine ⟨rfl, hpre.1, fun v3 h4 eh4 => ?_⟩
    have frh4 : Fr [29] hi h4 := (Fr.call (Fr.rf) eh4.1 (by decide))
    have w11 := eh4.2
    refine z_pop (pc := 14) dX6_takes_14 rfl ?_
    refine z_iconst (pc := 15) (v := 1) dX6_takes_15 rfl ?_
    refine z_zret (pc := 16) rfl (by decide) dX6_takes_16 ?_
    exact hQ 1 h4 ⟨frh4, by first | exact Or.inr ⟨by omega, rfl, rfl⟩ | exact Or.inl ⟨by omega, rfl, w11.2⟩⟩
  · refine z_iconst (pc := 8) (v := 0) dX6_takes_8 rfl ?_
    refine z_zret (pc := 9) rfl (by decide) dX6_takes_9 ?_
    exact hQ 0 hi ⟨(Fr.rf), by first | exact Or.inr ⟨by omega, rfl, rfl⟩ | exact Or.inl ⟨by omega, rfl, w11.2⟩⟩

abbrev kX6_expect : Kd := (cX6_expect, .code yX6_expect cX6_expect 2 none :: wsL_law0, rmL 3, RX6, none, 2)
theorem ct_X6_expect : Ct kX6_expect yX6_expect (fun a hi Q => ∃ s : Int, a = [AR 30, AR (ec s)] ∧ (TI hi ∧ (0 ≤ s ∧ s < 41)) ∧ ∀ h2 : HI, (Fr [29] hi h2 ∧ (h2 = if sgn hi = s then pasH hi else faiH hi 1)) → Q AU h2) := by
  refine Ct.of (ws' := _) (by decide +kernel) rfl rfl ?_
  intro a hi Q hT
  obtain ⟨s, rfl, hpre, hQ⟩ := hT
  refine ⟨Nat.le_of_ble_eq_true rfl, ?_⟩
  show Z kX6_expect Q 0 [(0, AR 30), (1, AR (ec s))] [] hi
  refine z_aload_n (pc := 0) (x := 30) dX6_expect_0 rfl 0 rfl ?_
  refine z_aload_n (pc := 1) (x := (ec s)) dX6_expect_1 rfl 1 rfl ?_
  refine z_callV (pc := 2) (kc := kX6_takes) (n := 1) (pl := 29) (ci := 5) (C := RX6) (As := [AR (ec s)]) (stk := []) ct_X6_takes (gdV rfl rfl (iw24 _ (List.mem_of_getElem? (i := 15) rfl)) (iw23 _ (List.mem_of_getElem? (i := 0) rfl)) (iw23 _ (List.mem_of_getElem? (i := 1) rfl)) (iw2 _ (List.mem_of_getElem? (i := 4) rfl)) (iw23 _ (List.mem_of_getElem? (i := 2) rfl))) rfl ⟨rfl, rfl⟩ (by decide +kernel) ⟨by decide, by decide⟩ (by decide) rfl rfl dX6_expect_2 rfl rfl (Nat.le_of_ble_eq_true rfl) ?_
  refine ⟨_, rfl, hpre, fun v1 h2 eh2 => ?_⟩
  have frh2 : Fr [29] hi h2 := (Fr.call (Fr.rf) eh2.1 (by decide))
  have w2 := eh2.2
  refine z_if_ne (pc := 5) (tgt := 13) dX6_expect_5 (by decide) ⟨by omega, by omega⟩ (fun c3 => ?_) (fun c3 => ?_)
  · refine z_vret (pc := 13) rfl dX6_expect_13 ?_
    exact hQ h2 ⟨frh2, by rcases w2 with ⟨q1, q2, q3⟩ | ⟨q1, q2, q3⟩ <;> first | (exfalso; omega) | (rw [if_pos q1]; exact q3) | (rw [if_neg q1, w10, q3])⟩
  · refine z_aload_n (pc := 8) (x := 30) dX6_expect_8 rfl 0 rfl ?_
    refine z_iconst (pc := 9) (v := 1) dX6_expect_9 rfl ?_
    refine z_callV (pc := 10) (kc := kX6_fail) (n := 1) (pl := 29) (ci := 5) (C := RX6) (As := [AI 1]) (stk := []) ct_X6_fail (gdV rfl rfl (iw23 _ (List.mem_of_getElem? (i := 12) rfl)) (iw23 _ (List.mem_of_getElem? (i := 13) rfl)) (iw23 _ (List.mem_of_getElem? (i := 14) rfl)) (iw2 _ (List.mem_of_getElem? (i := 4) rfl)) (iw23 _ (List.mem_of_getElem? (i := 15) rfl))) rfl ⟨rfl, rfl⟩ (by decide +kernel) ⟨by decide, by decide⟩ (by decide) rfl rfl dX6_expect_10 rfl rfl (Nat.le_of_ble_eq_true rfl) ?_
    refine ⟨_, rfl, ⟨by decide, by decide⟩, fun h4 eh4 => ?_⟩
    have frh4 : Fr [29] hi h4 := (Fr.call frh2 eh4.1 (by decide))
    try rw [(eh2.1 32 (by decide) : h2 32 = hi 32)] at eh4
    have w10 := eh4.2
    refine z_vret (pc := 13) rfl dX6_expect_13 ?_
    exact hQ h4 ⟨frh4, by rcases w2 with ⟨q1, q2, q3⟩ | ⟨q1, q2, q3⟩ <;> first | (exfalso; omega) | (rw [if_pos q1]; exact q3) | (rw [if_neg q1, w10, q3])⟩

abbrev kX6_expectWhole : Kd := (cX6_expectWhole, .code yX6_expectWhole cX6_expectWhole 1 (some .int) :: wsL_law0, rmL 2, RX6, (some .int), 1)
theorem ct_X6_expectWhole : Ct kX6_expectWhole yX6_expectWhole (fun a hi Q => a = [AR 30] ∧ (TI hi) ∧ ∀ (v : Int) (h2 : HI), (Fr [29] hi h2 ∧ ((sgn hi = 2 ∧ v = valH hi ∧ h2 = pasH hi) ∨ (sgn hi ≠ 2 ∧ v = 0 ∧ h2 = faiH hi 1))) → Q (AI v) h2) := by
  refine Ct.of (ws' := _) (by decide +kernel) rfl rfl ?_
  intro a hi Q hT
  obtain ⟨rfl, hpre, hQ⟩ := hT
  refine ⟨Nat.le_of_ble_eq_true rfl, ?_⟩
  show Z kX6_expectWhole Q 0 [(0, AR 30)] [] hi
  refine z_aload_n (pc := 0) (x := 30) dX6_expectWhole_0 rfl 0 rfl ?_
  refine z_callV (pc := 1) (kc := kX6_sign) (n := 0) (pl := 29) (ci := 5) (C := RX6) (As := []) (stk := []) ct_X6_sign (gdV rfl rfl (iw23 _ (List.mem_of_getElem? (i := 3) rfl)) (iw22 _ (List.mem_of_getElem? (i := 10) rfl)) (iw22 _ (List.mem_of_getElem? (i := 11) rfl)) (iw2 _ (List.mem_of_getElem? (i := 4) rfl)) (iw22 _ (List.mem_of_getElem? (i := 12) rfl))) rfl ⟨rfl, rfl⟩ (by decide +kernel) ⟨by decide, by decide⟩ (by decide) rfl rfl dX6_expectWhole_1 rfl rfl (Nat.le_of_ble_eq_true rfl) ?_
  refine ⟨rfl, hpre, fun v1 ev1 => ?_⟩
  refine z_getstE (pc := 4) (i := 2) (z := 2) (by decide) rfl (List.mem_cons_of_mem _ (iw18 _ (List.mem_of_getElem? (i := 14) rfl))) dX6_expectWhole_4 ?_
  refine z_acmp_eq (pc := 7) (tgt := 17) dX6_expectWhole_7 (by decide) (by omega) (by omega) (fun c2 => ?_) (fun c2 => ?_)
  · refine z_aload_n (pc := 17) (x := 30) dX6_expectWhole_17 rfl 0 rfl ?_
    refine z_callV (pc := 18) (kc := kX6_pass) (n := 0) (pl := 29) (ci := 5) (C := RX6) (As := []) (stk := []) ct_X6_pass (gdV rfl rfl (iw23 _ (List.mem_of_getElem? (i := 4) rfl)) (iw23 _ (List.mem_of_getElem? (i := 5) rfl)) (iw23 _ (List.mem_of_getElem? (i := 6) rfl)) (iw2 _ (List.mem_of_getElem? (i := 4) rfl)) (iw23 _ (List.mem_of_getElem? (i := 7) rfl))) rfl ⟨rfl, rfl⟩ (by decide +kernel) ⟨by decide, by decide⟩ (by decide) rfl rfl dX6_expectWhole_18 rfl rfl (Nat.le_of_ble_eq_true rfl) ?_
    refine ⟨rfl, hpre, fun v3 h4 eh4 => ?_⟩
    have frh4 : Fr [29] hi h4 := (Fr.call (Fr.rf) eh4.1 (by decide))
    have w18 := eh4.2
    refine z_iret (pc := 21) rfl dX6_expectWhole_21 ?_
    exact hQ v3 h4 ⟨frh4, by first | exact Or.inl ⟨by omega, w18⟩ | exact Or.inr ⟨by omega, rfl, w12⟩⟩
  · refine z_aload_n (pc := 10) (x := 30) dX6_expectWhole_10 rfl 0 rfl ?_
    refine z_iconst (pc := 11) (v := 1) dX6_expectWhole_11 rfl ?_
    refine z_callV (pc := 12) (kc := kX6_fail) (n := 1) (pl := 29) (ci := 5) (C := RX6) (As := [AI 1]) (stk := []) ct_X6_fail (gdV rfl rfl (iw23 _ (List.mem_of_getElem? (i := 12) rfl)) (iw23 _ (List.mem_of_getElem? (i := 13) rfl)) (iw23 _ (List.mem_of_getElem? (i := 14) rfl)) (iw2 _ (List.mem_of_getElem? (i := 4) rfl)) (iw23 _ (List.mem_of_getElem? (i := 15) rfl))) rfl ⟨rfl, rfl⟩ (by decide +kernel) ⟨by decide, by decide⟩ (by decide) rfl rfl dX6_expectWhole_12 rfl rfl (Nat.le_of_ble_eq_true rfl) ?_
    refine ⟨_, rfl, ⟨by decide, by decide⟩, fun h5 eh5 => ?_⟩
    have frh5 : Fr [29] hi h5 := (Fr.call (Fr.rf) eh5.1 (by decide))
    have w12 := eh5.2
    refine z_iconst (pc := 15) (v := 0) dX6_expectWhole_15 rfl ?_
    refine z_iret (pc := 16) rfl dX6_expectWhole_16 ?_
    exact hQ 0 h5 ⟨frh5, by first | exact Or.inl ⟨by omega, w18⟩ | exact Or.inr ⟨by omega, rfl, w12⟩⟩

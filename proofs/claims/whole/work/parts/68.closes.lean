section QST
variable {hi h2 : HI} {S P V st : Nat → Int} {m c : Nat} {oh : Int} {W : List Int} {G : List Ex} {g a b : Ex} {md : Nat}
theorem qs_init (t : TM hi S P V st m c) (e24 : hi 39 24 = 0) (e26 : hi 39 26 = 0) (e27 : hi 39 27 = 0) (e15 : hi 39 15 = -1) (e28 : hi 39 28 = oh) (ho : oh = 0 ∨ oh = 1) : QS hi S P V st m oh 0 c [] [] :=
  ⟨t, WM.nil e26, CM.nil e24, ⟨e27, by show (0 : Nat) ≤ 5; decide⟩, by omega, e15, fun x hx => absurd hx List.not_mem_nil, rfl, trivial, e28, ho⟩
theorem QS.topB (h : QS hi S P V st m oh 1 c W G) (ht : topW W = 8 ∨ topW W = 9) : ∃ (o : Int) (W2 : List Int) (b a : Ex) (G2 : List Ex), (o = 8 ∨ o = 9) ∧ W = o :: W2 ∧ G = b :: a :: G2 ∧ topW W2 ≠ 7 := by
  rcases ht with q | q
  · obtain ⟨W2, b, a, G2, e1, e2⟩ := h.top8 q
    subst e1
    exact ⟨8, W2, b, a, G2, Or.inl rfl, rfl, e2, h.okt.1⟩
  · obtain ⟨W2, b, a, G2, e1, e2⟩ := h.top9 q
    subst e1
    exact ⟨9, W2, b, a, G2, Or.inr rfl, rfl, e2, h.okt9.1⟩
theorem top_ne (h : 10 ∈ W) : W ≠ [] := fun q => by rw [q] at h; cases h
theorem QS.topR (h : QS hi S P V st m oh md c W G) (h7 : topW W ≠ 7) (h10 : 10 ∈ W) (ht : topW W ≠ 10) : topW W = 8 ∨ topW W = 9 := by
  have q := h.tops (top_ne h10)
  omega
theorem QS.topE (h : QS hi S P V st m oh md c W G) (hn : 0 < hi 39 26) (h7 : topW W ≠ 7) (h10 : 10 ∉ W) : topW W = 8 ∨ topW W = 9 := by
  rcases h.2.1.top with ⟨q1, q2⟩ | ⟨q1, W2, q2⟩
  · omega
  · have q := h.tops (by rw [q2]; exact fun z => by cases z)
    have k : topW W ≠ 10 := fun z => h10 (by rw [q2] at z ⊢; rw [show hi 50 (hi 39 26 - 1).toNat = 10 from z]; exact List.mem_cons_self)
    omega
theorem QS.emp (h : QS hi S P V st m oh 1 c W G) (hn : hi 39 26 ≤ 0) : ∃ g, W = [] ∧ G = [g] := by
  have e : W = [] := by
    rcases h.2.1.top with ⟨q1, q2⟩ | ⟨q1, W2, q2⟩
    · exact q2
    · omega
  subst e
  have l := h.2.2.2.2.2.2.2.1
  cases G with
  | nil => cases l
  | cons x y =>
    cases y with
    | nil => exact ⟨x, rfl, rfl⟩
    | cons z w => simp [bcW] at l
theorem r_binX {o : Int} (ho : o = 8 ∨ o = 9) (hs : o = 8 ∨ S c = 27 ∨ (S c = 10 ∧ 10 ∈ W) ∨ (S c = 0 ∧ 10 ∉ W)) : res oh S P V (1, c, o :: W, b :: a :: G) = res oh S P V (1, c, W, bin o a b :: G) := by
  rcases ho with q | q
  · subst q; exact r_and
  · subst q; exact r_or (hs.resolve_left (by decide))
theorem mem_bin {o : Int} (ho : o = 8 ∨ o = 9) : 10 ∈ o :: W ↔ 10 ∈ W := by
  constructor
  · exact fun q => (List.mem_cons.mp q).resolve_left (by omega)
  · exact fun q => List.mem_cons_of_mem _ q
theorem QS.okB {o : Int} (ho : o = 8 ∨ o = 9) (h : QS hi S P V st m oh 1 c (o :: W) (b :: a :: G)) : okX (1000 * o) (b :: a :: G) := okX_b ho h.qb.1 h.qb.2
end QST

abbrev kX8_dropsNots : Kd := (cX8_dropsNots, .code yX8_dropsNots cX8_dropsNots 1 none :: wsL_law0, rmL 3, RX8, none, 1)
theorem ct_X8_dropsNots : Ct kX8_dropsNots yX8_dropsNots (fun a hi Q => ∃ S : Nat → Int, ∃ P : Nat → Int, ∃ V : Nat → Int, ∃ st : Nat → Int, ∃ m : Nat, ∃ c : Nat, ∃ oh : Int, ∃ W : List Int, ∃ G : List Ex, a = [AR 40] ∧ (TM hi S P V st m c ∧ QS hi S P V st m oh 1 c W G) ∧ ∀ h2 : HI, (Fr [39, 49] hi h2 ∧ FF 39 [24, 26, 27] hi h2 ∧ (∃ (W2 : List Int) (G2 : List Ex), QS h2 S P V st m oh 1 c W2 G2 ∧ topW W2 ≠ 7 ∧ res oh S P V (1, c, W, G) = res oh S P V (1, c, W2, G2))) → Q AU h2) := by
  refine Ct.of (ws' := _) (by decide +kernel) rfl rfl ?_
  intro a hi Q hT
  obtain ⟨S, P, V, st, m, c, oh, W, G, rfl, hpre, hQ⟩ := hT
  refine ⟨Nat.le_of_ble_eq_true rfl, ?_⟩
  show Z kX8_dropsNots Q 0 [(0, AR 40)] [] hi
  have t0 := hpre.1
  have q0 := hpre.2
  have J0 : ∀ (N : Nat) (hk : HI), (∃ (W1 : List Int) (G1 : List Ex), QS hk S P V st m oh 1 c W1 G1 ∧ res oh S P V (1, c, W, G) = res oh S P V (1, c, W1, G1)) → (Fr [39, 49] hi hk) → (FF 39 [24, 26, 27] hi hk) → ((hk 39 26).toNat) < N → Z kX8_dropsNots Q 0 [(0, AR 40)] [] hk := by
    intro N
    induction N with
    | zero => intro hk _ _ _ _; exact absurd (by assumption) (Nat.not_lt_zero _)
    | succ N ih0 =>
      intro hk i1 frlhk ffl39hk hm0
      obtain ⟨W1, G1, qk, rk⟩ := i1
      have tk := qk.1
      have bk := qk.bds
      have o27 := qk.2.2.2.1
      have f15hk : hk 39 15 = hi 39 15 := ffl39hk 15 (by decide)
      have f28hk : hk 39 28 = hi 39 28 := ffl39hk 28 (by decide)
      refine z_aload_n (pc := 0) (x := 40) dX8_dropsNots_0 rfl 0 rfl ?_
      refine z_bipush (pc := 1) (v := 7) dX8_dropsNots_1 (by decide +kernel) ?_
      refine z_callV (pc := 3) (kc := kX8_isTop) (n := 1) (pl := 39) (ci := 7) (C := RX8) (As := [AI 7]) (stk := []) ct_X8_isTop (gdV rfl rfl (iw37 _ (List.mem_of_getElem? (i := 23) rfl)) (iw38 _ (List.mem_of_getElem? (i := 0) rfl)) (iw38 _ (List.mem_of_getElem? (i := 1) rfl)) (iw1 _ (List.mem_of_getElem? (i := 5) rfl)) (iw38 _ (List.mem_of_getElem? (i := 2) rfl))) rfl ⟨rfl, rfl⟩ (by decide +kernel) ⟨by decide, by decide⟩ (by decide) rfl rfl dX8_dropsNots_3 rfl rfl (Nat.le_of_ble_eq_true rfl) ?_
      refine ⟨_, W1, rfl, ⟨qk.2.1, by have := qk.bds; omega, ⟨by decide, by decide⟩, by decide⟩, fun v1 ev1 => ?_⟩
      refine z_if_eq (pc := 6) (tgt := 26) dX8_dropsNots_6 (by decide) ⟨by omega, by omega⟩ (fun c2 => ?_) (fun c2 => ?_)
      · refine z_vret (pc := 26) rfl dX8_dropsNots_26 ?_
        exact hQ hk ⟨frlhk, ffl39hk, ⟨W1, G1, qk, by omega, rk⟩⟩
      · obtain ⟨W2, g, G2, eW, eG⟩ := qk.top7 (by omega)
        subst eW
        subst eG
        have p26 := qk.2.1.hd.2
        refine z_aload_n (pc := 9) (x := 40) dX8_dropsNots_9 rfl 0 rfl ?_
        refine z_callV (pc := 10) (kc := kX8_drops) (n := 0) (pl := 39) (ci := 7) (C := RX8) (As := []) (stk := []) ct_X8_drops (gdV rfl rfl (iw38 _ (List.mem_of_getElem? (i := 3) rfl)) (iw38 _ (List.mem_of_getElem? (i := 4) rfl)) (iw38 _ (List.mem_of_getElem? (i := 5) rfl)) (iw1 _ (List.mem_of_getElem? (i := 5) rfl)) (iw38 _ (List.mem_of_getElem? (i := 6) rfl))) rfl ⟨rfl, rfl⟩ (by decide +kernel) ⟨by decide, by decide⟩ (by decide) rfl rfl dX8_dropsNots_10 rfl rfl (Nat.le_of_ble_eq_true rfl) ?_
        refine ⟨7, W2, (g :: G2), rfl, ⟨qk.2.1, qk.2.2.1, by omega, okX_7m, by decide⟩, fun h3 eh3 => ?_⟩
        have frh3 : Fr [39, 49] hi h3 := (Fr.call frlhk eh3.1 (by decide))
        have ff39h3 : FF 39 [24, 26, 27] hi h3 := FF.call ffl39hk (eh3.2.1) (by decide)
        have th3 : TM h3 S P V st m c := TM.fr tk eh3.1 eh3.2.1 (by decide) (by decide)
        have dw := eh3.2.2.1
        have dc := eh3.2.2.2.1
        have d24 := eh3.2.2.2.2.1
        have d26 := eh3.2.2.2.2.2
        rw [apC_7m] at dc
        refine z_aload_n (pc := 13) (x := 40) dX8_dropsNots_13 rfl 0 rfl ?_
        refine z_dup (pc := 14) dX8_dropsNots_14 rfl ?_
        refine z_getI (pc := 15) (pl := 39) (f := 27) (ci := 7) (C := RX8) (T := TX8) (N := 33) hu_X8 (by decide) rfl rfl (by decide) rfl (List.mem_cons_of_mem _ (iw36 _ (List.mem_of_getElem? (i := 4) rfl))) rfl (by decide) dX8_dropsNots_15 (fun v4 ev4 rv4 => ?_)
        rw [(eh3.2.1 27 (by decide) : h3 39 27 = hk 39 27)] at ev4
        refine z_iconst (pc := 18) (v := 1) dX8_dropsNots_18 rfl ?_
        refine z_isub (pc := 19) dX8_dropsNots_19 (fun v5 ev5 => ?_)
        refine z_putI (pc := 20) (pl := 39) (f := 27) (ci := 7) (C := RX8) (T := TX8) (N := 33) hu_X8 tyX8_ok nmX8 (by decide) rfl rfl (by decide) rfl (List.mem_cons_of_mem _ (iw36 _ (List.mem_of_getElem? (i := 4) rfl))) rfl rfl (ty := .int) (by decide +kernel) rfl rfl ⟨by omega, by omega⟩ dX8_dropsNots_20 (fun h6 eh6 => ?_)
        have frh6 : Fr [39, 49] hi h6 := (Fr.put frh3 eh6 (by decide))
        have ff39h6 : FF 39 [24, 26, 27] hi h6 := FF.put ff39h3 eh6 (by decide)
        have th6 : TM h6 S P V st m c := TM.put th3 eh6 (by decide)
        have dw2 := dw.kp (h2 := h6) (by rw [eh6]; rfl) (by rw [eh6]; rfl)
        have dc2 := dc.kp (h2 := h6) (by rw [eh6]; rfl) (by rw [eh6]; rfl)
        refine z_goto (pc := 23) (tgt := 0) dX8_dropsNots_23 (by decide) ?_
        exact ih0 h6 (⟨W2, nt g :: G2, qs_not qk th6 dw2 dc2 (by rw [(by rw [(by rw [eh6]; rfl : h6 39 27 = v5)] : h6 39 27 = v5)]; first | done | omega) (by rw [(by rw [(by rw [eh6]; rfl : h6 39 24 = h3 39 24)] : h6 39 24 = h3 39 24)]; first | done | omega) (by rw [(by rw [(by rw [eh6]; rfl : h6 39 26 = h3 39 26)] : h6 39 26 = h3 39 26)]; first | done | omega) (by rw [(by rw [(by rw [eh6]; rfl : h6 39 15 = h3 39 15), (eh3.2.1 15 (by decide) : h3 39 15 = hk 39 15), (ffl39hk 15 (by decide) : hk 39 15 = hi 39 15)] : h6 39 15 = hi 39 15)]; first | done | omega) (by rw [(by rw [(by rw [eh6]; rfl : h6 39 28 = h3 39 28), (eh3.2.1 28 (by decide) : h3 39 28 = hk 39 28), (ffl39hk 28 (by decide) : hk 39 28 = hi 39 28)] : h6 39 28 = hi 39 28)]; first | done | omega), rk.trans r_nt⟩) (frh6) (ff39h6) (by rw [(by rw [(by rw [eh6]; rfl : h6 39 26 = h3 39 26)] : h6 39 26 = h3 39 26)]; omega)
  exact J0 _ hi (⟨W, G, q0, rfl⟩) ((Fr.rf)) ((FF.rf)) (Nat.lt_succ_self _)

abbrev kX8_opens : Kd := (cX8_opens, .code yX8_opens cX8_opens 1 (some .boolean) :: wsL_law0, rmL 3, RX8, (some .boolean), 1)
theorem ct_X8_opens : Ct kX8_opens yX8_opens (fun a hi Q => ∃ S : Nat → Int, ∃ P : Nat → Int, ∃ V : Nat → Int, ∃ st : Nat → Int, ∃ m : Nat, ∃ c : Nat, ∃ oh : Int, ∃ W : List Int, ∃ G : List Ex, a = [AR 40] ∧ (TM hi S P V st m c ∧ QS hi S P V st m oh 0 c W G ∧ (S c = 29 ∨ S c = 9)) ∧ ∀ (v : Int) (h2 : HI), (Fr [39, 50] hi h2 ∧ FF 39 [10, 11, 12, 13, 14, 15, 16, 26, 27] hi h2 ∧ ((v = 1 ∧ opn W < 5 ∧ QS h2 S P V st m oh 0 (c + 1) ((if S c = 29 then 7 else 10) :: W) G) ∨ (v = 0 ∧ 5 ≤ opn W ∧ FLK h2 2 (P c)))) → Q (AI v) h2) := by
  refine Ct.of (ws' := _) (by decide +kernel) rfl rfl ?_
  intro a hi Q hT
  obtain ⟨S, P, V, st, m, c, oh, W, G, rfl, hpre, hQ⟩ := hT
  refine ⟨Nat.le_of_ble_eq_true rfl, ?_⟩
  show Z kX8_opens Q 0 [(0, AR 40)] [] hi
  have t0 := hpre.1
  have q0 := hpre.2.1
  have s0 := hpre.2.2
  have b0 := q0.bds
  have f15 := q0.2.2.2.2.2.1
  have o0 := q0.2.2.2.1
  refine z_aload_n (pc := 0) (x := 40) dX8_opens_0 rfl 0 rfl ?_
  refine z_getI (pc := 1) (pl := 39) (f := 27) (ci := 7) (C := RX8) (T := TX8) (N := 33) hu_X8 (by decide) rfl rfl (by decide) rfl (List.mem_cons_of_mem _ (iw36 _ (List.mem_of_getElem? (i := 4) rfl))) rfl (by decide) dX8_opens_1 (fun v1 ev1 rv1 => ?_)
  refine z_iconst (pc := 4) (v := 5) dX8_opens_4 rfl ?_
  refine z_icmp_ne (pc := 5) (tgt := 14) dX8_opens_5 (by decide) ⟨by omega, by omega⟩ ⟨by decide, by decide⟩ (fun c2 => ?_) (fun c2 => ?_)
  · refine z_aload_n (pc := 14) (x := 40) dX8_opens_14 rfl 0 rfl ?_
    refine z_dup (pc := 15) dX8_opens_15 rfl ?_
    refine z_getI (pc := 16) (pl := 39) (f := 27) (ci := 7) (C := RX8) (T := TX8) (N := 33) hu_X8 (by decide) rfl rfl (by decide) rfl (List.mem_cons_of_mem _ (iw36 _ (List.mem_of_getElem? (i := 4) rfl))) rfl (by decide) dX8_opens_16 (fun v3 ev3 rv3 => ?_)
    refine z_iconst (pc := 19) (v := 1) dX8_opens_19 rfl ?_
    refine z_iadd (pc := 20) dX8_opens_20 (fun v4 ev4 => ?_)
    refine z_putI (pc := 21) (pl := 39) (f := 27) (ci := 7) (C := RX8) (T := TX8) (N := 33) hu_X8 tyX8_ok nmX8 (by decide) rfl rfl (by decide) rfl (List.mem_cons_of_mem _ (iw36 _ (List.mem_of_getElem? (i := 4) rfl))) rfl rfl (ty := .int) (by decide +kernel) rfl rfl ⟨by omega, by omega⟩ dX8_opens_21 (fun h5 eh5 => ?_)
    have frh5 : Fr [39, 50] hi h5 := (Fr.put (Fr.rf) eh5 (by decide))
    have ff39h5 : FF 39 [10, 11, 12, 13, 14, 15, 16, 26, 27] hi h5 := FF.put (FF.rf) eh5 (by decide)
    have th5 : TM h5 S P V st m c := TM.put t0 eh5 (by decide)
    refine z_aload_n (pc := 24) (x := 40) dX8_opens_24 rfl 0 rfl ?_
    refine z_getR (pc := 25) (pl := 39) (f := 25) (ci := 7) (C := RX8) (T := TX8) (N := 33) hu_X8 (by decide) rfl rfl (by decide) rfl (List.mem_cons_of_mem _ (iw5 _ (List.mem_of_getElem? (i := 16) rfl))) rfl dX8_opens_25 ?_
    refine z_aload_n (pc := 28) (x := 40) dX8_opens_28 rfl 0 rfl ?_
    refine z_getI (pc := 29) (pl := 39) (f := 26) (ci := 7) (C := RX8) (T := TX8) (N := 33) hu_X8 (by decide) rfl rfl (by decide) rfl (List.mem_cons_of_mem _ (iw36 _ (List.mem_of_getElem? (i := 3) rfl))) rfl (by decide) dX8_opens_29 (fun v6 ev6 rv6 => ?_)
    rw [(by rw [eh5]; rfl : h5 39 26 = hi 39 26)] at ev6
    refine z_aload_n (pc := 32) (x := 40) dX8_opens_32 rfl 0 rfl ?_
    refine z_ldc2 (pc := 33) (v := 14836) (x := 14836) (List.mem_cons_of_mem _ (iw36 _ (List.mem_of_getElem? (i := 6) rfl))) (by decide +kernel) dX8_opens_33 ?_
    refine z_callV (pc := 36) (kc := kX8_is) (n := 1) (pl := 39) (ci := 7) (C := RX8) (As := [AL 14836]) (stk := [AI v6, AR 51]) ct_X8_is (gdV rfl rfl (iw29 _ (List.mem_of_getElem? (i := 13) rfl)) (iw29 _ (List.mem_of_getElem? (i := 14) rfl)) (iw29 _ (List.mem_of_getElem? (i := 15) rfl)) (iw1 _ (List.mem_of_getElem? (i := 5) rfl)) (iw29 _ (List.mem_of_getElem? (i := 16) rfl))) rfl ⟨rfl, rfl⟩ (by decide +kernel) ⟨by decide, by decide⟩ (by decide) rfl rfl dX8_opens_36 rfl rfl (Nat.le_of_ble_eq_true rfl) ?_
    refine ⟨_, rfl, by omega, fun v7 ev7 => ?_⟩
    have wv7 := isw ev7 (th5.wd 29 (by decide) (by decide))
    refine z_if_eq (pc := 39) (tgt := 47) dX8_opens_39 (by decide) ⟨by omega, by omega⟩ (fun c8 => ?_) (fun c8 => ?_)
    · refine z_bipush (pc := 47) (v := 10) dX8_opens_47 (by decide +kernel) ?_
      refine z_iast (pc := 49) (pl := 50) (by decide) rfl (by decide) (by omega) (by omega) ⟨by decide, by decide⟩ dX8_opens_49 (fun h9 eh9 => ?_)
      have frh9 : Fr [39, 50] hi h9 := (Fr.put frh5 eh9 (by decide))
      have ff39h9 : FF 39 [10, 11, 12, 13, 14, 15, 16, 26, 27] hi h9 := FF.oth ff39h5 eh9 (by decide)
      have th9 : TM h9 S P V st m c := TM.oth th5 eh9 (by decide)
      have u49 : h9 50 = updI (hi 50) (hi 39 26).toNat 10 := by rw [eh9, hput_same, (by rw [(by rw [eh5]; rfl : h5 50 = hi 50)] : h5 50 = hi 50)]; exact updI_c (by omega) (by omega)
      refine z_aload_n (pc := 50) (x := 40) dX8_opens_50 rfl 0 rfl ?_
      refine z_dup (pc := 51) dX8_opens_51 rfl ?_
      refine z_getI (pc := 52) (pl := 39) (f := 26) (ci := 7) (C := RX8) (T := TX8) (N := 33) hu_X8 (by decide) rfl rfl (by decide) rfl (List.mem_cons_of_mem _ (iw36 _ (List.mem_of_getElem? (i := 3) rfl))) rfl (by decide) dX8_opens_52 (fun v10 ev10 rv10 => ?_)
      rw [(by rw [eh9]; rfl : h9 39 26 = h5 39 26), (by rw [eh5]; rfl : h5 39 26 = hi 39 26)] at ev10
      refine z_iconst (pc := 55) (v := 1) dX8_opens_55 rfl ?_
      refine z_iadd (pc := 56) dX8_opens_56 (fun v11 ev11 => ?_)
      refine z_putI (pc := 57) (pl := 39) (f := 26) (ci := 7) (C := RX8) (T := TX8) (N := 33) hu_X8 tyX8_ok nmX8 (by decide) rfl rfl (by decide) rfl (List.mem_cons_of_mem _ (iw36 _ (List.mem_of_getElem? (i := 3) rfl))) rfl rfl (ty := .int) (by decide +kernel) rfl rfl ⟨by omega, by omega⟩ dX8_opens_57 (fun h12 eh12 => ?_)
      have frh12 : Fr [39, 50] hi h12 := (Fr.put frh9 eh12 (by decide))
      have ff39h12 : FF 39 [10, 11, 12, 13, 14, 15, 16, 26, 27] hi h12 := FF.put ff39h9 eh12 (by decide)
      have th12 : TM h12 S P V st m c := TM.put th9 eh12 (by decide)
      refine z_aload_n (pc := 60) (x := 40) dX8_opens_60 rfl 0 rfl ?_
      refine z_callV (pc := 61) (kc := kX8_go) (n := 0) (pl := 39) (ci := 7) (C := RX8) (As := []) (stk := []) ct_X8_go2 (gdV rfl rfl (iw27 _ (List.mem_of_getElem? (i := 11) rfl)) (iw27 _ (List.mem_of_getElem? (i := 12) rfl)) (iw27 _ (List.mem_of_getElem? (i := 13) rfl)) (iw1 _ (List.mem_of_getElem? (i := 5) rfl)) (iw27 _ (List.mem_of_getElem? (i := 14) rfl))) rfl ⟨rfl, rfl⟩ (by decide +kernel) ⟨by decide, by decide⟩ (by decide) rfl rfl dX8_opens_61 rfl rfl (Nat.le_of_ble_eq_true rfl) ?_
      refine ⟨S, P, V, st, m, c, rfl, ⟨th12, by omega, by omega⟩, fun h13 eh13 => ?_⟩
      have frh13 : Fr [39, 50] hi h13 := (Fr.call frh12 eh13.1 (by decide))
      have ff39h13 : FF 39 [10, 11, 12, 13, 14, 15, 16, 26, 27] hi h13 := FF.call ff39h12 (eh13.2.1) (by decide)
      have th13 : TM h13 S P V st m (c + 1) := eh13.2.2
      refine z_iconst (pc := 64) (v := 1) dX8_opens_64 rfl ?_
      refine z_zret (pc := 65) rfl (by decide) dX8_opens_65 ?_
      exact hQ 1 h13 ⟨frh13, ff39h13, by first | exact Or.inr ⟨by omega, by omega, xh13⟩ | exact Or.inl ⟨rfl, by omega, by rw [if_pos (by omega)]; exact qs_open (Or.inl rfl) q0 (by omega) th13 (q0.2.1.push (by rw [(by rw [(eh13.1 50 (by decide) : h13 50 = h12 50), (by rw [eh12]; rfl : h12 50 = h9 50)] : h13 50 = h9 50)]; exact u49) (by rw [(by rw [(eh13.2.1 26 (by decide) : h13 39 26 = h12 39 26), (by rw [eh12]; rfl : h12 39 26 = v11)] : h13 39 26 = v11)]; first | done | omega)) (q0.2.2.1.kp (by rw [(eh13.1 49 (by decide) : h13 49 = h12 49), (by rw [eh12]; rfl : h12 49 = h9 49), (by rw [eh9]; rfl : h9 49 = h5 49), (by rw [eh5]; rfl : h5 49 = hi 49)] : h13 49 = hi 49) (by rw [(eh13.2.1 24 (by decide) : h13 39 24 = h12 39 24), (by rw [eh12]; rfl : h12 39 24 = h9 39 24), (by rw [eh9]; rfl : h9 39 24 = h5 39 24), (by rw [eh5]; rfl : h5 39 24 = hi 39 24)] : h13 39 24 = hi 39 24)) (by rw [(by rw [(eh13.2.1 27 (by decide) : h13 39 27 = h12 39 27), (by rw [eh12]; rfl : h12 39 27 = h9 39 27), (by rw [eh9]; rfl : h9 39 27 = h5 39 27), (by rw [eh5]; rfl : h5 39 27 = v4)] : h13 39 27 = v4)]; first | done | omega) (by rw [(by rw [(eh13.2.1 24 (by decide) : h13 39 24 = h12 39 24), (by rw [eh12]; rfl : h12 39 24 = h9 39 24), (by rw [eh9]; rfl : h9 39 24 = h5 39 24), (by rw [eh5]; rfl : h5 39 24 = hi 39 24)] : h13 39 24 = hi 39 24)]; first | done | omega) (by rw [(by rw [(eh13.2.1 26 (by decide) : h13 39 26 = h12 39 26), (by rw [eh12]; rfl : h12 39 26 = v11)] : h13 39 26 = v11)]; first | done | omega) (by rw [(by rw [(eh13.2.1 15 (by decide) : h13 39 15 = h12 39 15), (by rw [eh12]; rfl : h12 39 15 = h9 39 15), (by rw [eh9]; rfl : h9 39 15 = h5 39 15), (by rw [eh5]; rfl : h5 39 15 = hi 39 15)] : h13 39 15 = hi 39 15)]; first | done | omega) (by rw [(by rw [(eh13.2.1 28 (by decide) : h13 39 28 = h12 39 28), (by rw [eh12]; rfl : h12 39 28 = h9 39 28), (by rw [eh9]; rfl : h9 39 28 = h5 39 28), (by rw [eh5]; rfl : h5 39 28 = hi 39 28)] : h13 39 28 = hi 39 28)]; first | done | omega)⟩ | exact Or.inl ⟨rfl, by omega, by rw [if_neg (by omega)]; exact qs_open (Or.inr rfl) q0 (by omega) th13 (q0.2.1.push (by rw [(by rw [(eh13.1 50 (by decide) : h13 50 = h12 50), (by rw [eh12]; rfl : h12 50 = h9 50)] : h13 50 = h9 50)]; exact u49) (by rw [(by rw [(eh13.2.1 26 (by decide) : h13 39 26 = h12 39 26), (by rw [eh12]; rfl : h12 39 26 = v11)] : h13 39 26 = v11)]; first | done | omega)) (q0.2.2.1.kp (by rw [(eh13.1 49 (by decide) : h13 49 = h12 49), (by rw [eh12]; rfl : h12 49 = h9 49), (by rw [eh9]; rfl : h9 49 = h5 49), (by rw [eh5]; rfl : h5 49 = hi 49)] : h13 49 = hi 49) (by rw [(eh13.2.1 24 (by decide) : h13 39 24 = h12 39 24), (by rw [eh12]; rfl : h12 39 24 = h9 39 24), (by rw [eh9]; rfl : h9 39 24 = h5 39 24), (by rw [eh5]; rfl : h5 39 24 = hi 39 24)] : h13 39 24 = hi 39 24)) (by rw [(by rw [(eh13.2.1 27 (by decide) : h13 39 27 = h12 39 27), (by rw [eh12]; rfl : h12 39 27 = h9 39 27), (by rw [eh9]; rfl : h9 39 27 = h5 39 27), (by rw [eh5]; rfl : h5 39 27 = v4)] : h13 39 27 = v4)]; first | done | omega) (by rw [(by rw [(eh13.2.1 24 (by decide) : h13 39 24 = h12 39 24), (by rw [eh12]; rfl : h12 39 24 = h9 39 24), (by rw [eh9]; rfl : h9 39 24 = h5 39 24), (by rw [eh5]; rfl : h5 39 24 = hi 39 24)] : h13 39 24 = hi 39 24)]; first | done | omega) (by rw [(by rw [(eh13.2.1 26 (by decide) : h13 39 26 = h12 39 26), (by rw [eh12]; rfl : h12 39 26 = v11)] : h13 39 26 = v11)]; first | done | omega) (by rw [(by rw [(eh13.2.1 15 (by decide) : h13 39 15 = h12 39 15), (by rw [eh12]; rfl : h12 39 15 = h9 39 15), (by rw [eh9]; rfl : h9 39 15 = h5 39 15), (by rw [eh5]; rfl : h5 39 15 = hi 39 15)] : h13 39 15 = hi 39 15)]; first | done | omega) (by rw [(by rw [(eh13.2.1 28 (by decide) : h13 39 28 = h12 39 28), (by rw [eh12]; rfl : h12 39 28 = h9 39 28), (by rw [eh9]; rfl : h9 39 28 = h5 39 28), (by rw [eh5]; rfl : h5 39 28 = hi 39 28)] : h13 39 28 = hi 39 28)]; first | done | omega)⟩ | (exfalso; omega)⟩
    · refine z_bipush (pc := 42) (v := 7) dX8_opens_42 (by decide +kernel) ?_
      refine z_goto (pc := 44) (tgt := 49) dX8_opens_44 (by decide) ?_
      refine z_iast (pc := 49) (pl := 50) (by decide) rfl (by decide) (by omega) (by omega) ⟨by decide, by decide⟩ dX8_opens_49 (fun h14 eh14 => ?_)
      have frh14 : Fr [39, 50] hi h14 := (Fr.put frh5 eh14 (by decide))
      have ff39h14 : FF 39 [10, 11, 12, 13, 14, 15, 16, 26, 27] hi h14 := FF.oth ff39h5 eh14 (by decide)
      have th14 : TM h14 S P V st m c := TM.oth th5 eh14 (by decide)
      have u49 : h14 50 = updI (hi 50) (hi 39 26).toNat 7 := by rw [eh14, hput_same, (by rw [(by rw [eh5]; rfl : h5 50 = hi 50)] : h5 50 = hi 50)]; exact updI_c (by omega) (by omega)
      refine z_aload_n (pc := 50) (x := 40) dX8_opens_50 rfl 0 rfl ?_
      refine z_dup (pc := 51) dX8_opens_51 rfl ?_
      refine z_getI (pc := 52) (pl := 39) (f := 26) (ci := 7) (C := RX8) (T := TX8) (N := 33) hu_X8 (by decide) rfl rfl (by decide) rfl (List.mem_cons_of_mem _ (iw36 _ (List.mem_of_getElem? (i := 3) rfl))) rfl (by decide) dX8_opens_52 (fun v15 ev15 rv15 => ?_)
      rw [(by rw [eh14]; rfl : h14 39 26 = h5 39 26), (by rw [eh5]; rfl : h5 39 26 = hi 39 26)] at ev15
      refine z_iconst (pc := 55) (v := 1) dX8_opens_55 rfl ?_
      refine z_iadd (pc := 56) dX8_opens_56 (fun v16 ev16 => ?_)
      refine z_putI (pc := 57) (pl := 39) (f := 26) (ci := 7) (C := RX8) (T := TX8) (N := 33) hu_X8 tyX8_ok nmX8 (by decide) rfl rfl (by decide) rfl (List.mem_cons_of_mem _ (iw36 _ (List.mem_of_getElem? (i := 3) rfl))) rfl rfl (ty := .int) (by decide +kernel) rfl rfl ⟨by omega, by omega⟩ dX8_opens_57 (fun h17 eh17 => ?_)
      have frh17 : Fr [39, 50] hi h17 := (Fr.put frh14 eh17 (by decide))
      have ff39h17 : FF 39 [10, 11, 12, 13, 14, 15, 16, 26, 27] hi h17 := FF.put ff39h14 eh17 (by decide)
      have th17 : TM h17 S P V st m c := TM.put th14 eh17 (by decide)
      refine z_aload_n (pc := 60) (x := 40) dX8_opens_60 rfl 0 rfl ?_
      refine z_callV (pc := 61) (kc := kX8_go) (n := 0) (pl := 39) (ci := 7) (C := RX8) (As := []) (stk := []) ct_X8_go2 (gdV rfl rfl (iw27 _ (List.mem_of_getElem? (i := 11) rfl)) (iw27 _ (List.mem_of_getElem? (i := 12) rfl)) (iw27 _ (List.mem_of_getElem? (i := 13) rfl)) (iw1 _ (List.mem_of_getElem? (i := 5) rfl)) (iw27 _ (List.mem_of_getElem? (i := 14) rfl))) rfl ⟨rfl, rfl⟩ (by decide +kernel) ⟨by decide, by decide⟩ (by decide) rfl rfl dX8_opens_61 rfl rfl (Nat.le_of_ble_eq_true rfl) ?_
      refine ⟨S, P, V, st, m, c, rfl, ⟨th17, by omega, by omega⟩, fun h18 eh18 => ?_⟩
      have frh18 : Fr [39, 50] hi h18 := (Fr.call frh17 eh18.1 (by decide))
      have ff39h18 : FF 39 [10, 11, 12, 13, 14, 15, 16, 26, 27] hi h18 := FF.call ff39h17 (eh18.2.1) (by decide)
      have th18 : TM h18 S P V st m (c + 1) := eh18.2.2
      refine z_iconst (pc := 64) (v := 1) dX8_opens_64 rfl ?_
      refine z_zret (pc := 65) rfl (by decide) dX8_opens_65 ?_
      exact hQ 1 h18 ⟨frh18, ff39h18, by first | exact Or.inr ⟨by omega, by omega, xh18⟩ | exact Or.inl ⟨rfl, by omega, by rw [if_pos (by omega)]; exact qs_open (Or.inl rfl) q0 (by omega) th18 (q0.2.1.push (by rw [(by rw [(eh18.1 50 (by decide) : h18 50 = h17 50), (by rw [eh17]; rfl : h17 50 = h14 50)] : h18 50 = h14 50)]; exact u49) (by rw [(by rw [(eh18.2.1 26 (by decide) : h18 39 26 = h17 39 26), (by rw [eh17]; rfl : h17 39 26 = v16)] : h18 39 26 = v16)]; first | done | omega)) (q0.2.2.1.kp (by rw [(eh18.1 49 (by decide) : h18 49 = h17 49), (by rw [eh17]; rfl : h17 49 = h14 49), (by rw [eh14]; rfl : h14 49 = h5 49), (by rw [eh5]; rfl : h5 49 = hi 49)] : h18 49 = hi 49) (by rw [(eh18.2.1 24 (by decide) : h18 39 24 = h17 39 24), (by rw [eh17]; rfl : h17 39 24 = h14 39 24), (by rw [eh14]; rfl : h14 39 24 = h5 39 24), (by rw [eh5]; rfl : h5 39 24 = hi 39 24)] : h18 39 24 = hi 39 24)) (by rw [(by rw [(eh18.2.1 27 (by decide) : h18 39 27 = h17 39 27), (by rw [eh17]; rfl : h17 39 27 = h14 39 27), (by rw [eh14]; rfl : h14 39 27 = h5 39 27), (by rw [eh5]; rfl : h5 39 27 = v4)] : h18 39 27 = v4)]; first | done | omega) (by rw [(by rw [(eh18.2.1 24 (by decide) : h18 39 24 = h17 39 24), (by rw [eh17]; rfl : h17 39 24 = h14 39 24), (by rw [eh14]; rfl : h14 39 24 = h5 39 24), (by rw [eh5]; rfl : h5 39 24 = hi 39 24)] : h18 39 24 = hi 39 24)]; first | done | omega) (by rw [(by rw [(eh18.2.1 26 (by decide) : h18 39 26 = h17 39 26), (by rw [eh17]; rfl : h17 39 26 = v16)] : h18 39 26 = v16)]; first | done | omega) (by rw [(by rw [(eh18.2.1 15 (by decide) : h18 39 15 = h17 39 15), (by rw [eh17]; rfl : h17 39 15 = h14 39 15), (by rw [eh14]; rfl : h14 39 15 = h5 39 15), (by rw [eh5]; rfl : h5 39 15 = hi 39 15)] : h18 39 15 = hi 39 15)]; first | done | omega) (by rw [(by rw [(eh18.2.1 28 (by decide) : h18 39 28 = h17 39 28), (by rw [eh17]; rfl : h17 39 28 = h14 39 28), (by rw [eh14]; rfl : h14 39 28 = h5 39 28), (by rw [eh5]; rfl : h5 39 28 = hi 39 28)] : h18 39 28 = hi 39 28)]; first | done | omega)⟩ | exact Or.inl ⟨rfl, by omega, by rw [if_neg (by omega)]; exact qs_open (Or.inr rfl) q0 (by omega) th18 (q0.2.1.push (by rw [(by rw [(eh18.1 50 (by decide) : h18 50 = h17 50), (by rw [eh17]; rfl : h17 50 = h14 50)] : h18 50 = h14 50)]; exact u49) (by rw [(by rw [(eh18.2.1 26 (by decide) : h18 39 26 = h17 39 26), (by rw [eh17]; rfl : h17 39 26 = v16)] : h18 39 26 = v16)]; first | done | omega)) (q0.2.2.1.kp (by rw [(eh18.1 49 (by decide) : h18 49 = h17 49), (by rw [eh17]; rfl : h17 49 = h14 49), (by rw [eh14]; rfl : h14 49 = h5 49), (by rw [eh5]; rfl : h5 49 = hi 49)] : h18 49 = hi 49) (by rw [(eh18.2.1 24 (by decide) : h18 39 24 = h17 39 24), (by rw [eh17]; rfl : h17 39 24 = h14 39 24), (by rw [eh14]; rfl : h14 39 24 = h5 39 24), (by rw [eh5]; rfl : h5 39 24 = hi 39 24)] : h18 39 24 = hi 39 24)) (by rw [(by rw [(eh18.2.1 27 (by decide) : h18 39 27 = h17 39 27), (by rw [eh17]; rfl : h17 39 27 = h14 39 27), (by rw [eh14]; rfl : h14 39 27 = h5 39 27), (by rw [eh5]; rfl : h5 39 27 = v4)] : h18 39 27 = v4)]; first | done | omega) (by rw [(by rw [(eh18.2.1 24 (by decide) : h18 39 24 = h17 39 24), (by rw [eh17]; rfl : h17 39 24 = h14 39 24), (by rw [eh14]; rfl : h14 39 24 = h5 39 24), (by rw [eh5]; rfl : h5 39 24 = hi 39 24)] : h18 39 24 = hi 39 24)]; first | done | omega) (by rw [(by rw [(eh18.2.1 26 (by decide) : h18 39 26 = h17 39 26), (by rw [eh17]; rfl : h17 39 26 = v16)] : h18 39 26 = v16)]; first | done | omega) (by rw [(by rw [(eh18.2.1 15 (by decide) : h18 39 15 = h17 39 15), (by rw [eh17]; rfl : h17 39 15 = h14 39 15), (by rw [eh14]; rfl : h14 39 15 = h5 39 15), (by rw [eh5]; rfl : h5 39 15 = hi 39 15)] : h18 39 15 = hi 39 15)]; first | done | omega) (by rw [(by rw [(eh18.2.1 28 (by decide) : h18 39 28 = h17 39 28), (by rw [eh17]; rfl : h17 39 28 = h14 39 28), (by rw [eh14]; rfl : h14 39 28 = h5 39 28), (by rw [eh5]; rfl : h5 39 28 = hi 39 28)] : h18 39 28 = hi 39 28)]; first | done | omega)⟩ | (exfalso; omega)⟩
  · refine z_aload_n (pc := 8) (x := 40) dX8_opens_8 rfl 0 rfl ?_
    refine z_iconst (pc := 9) (v := 2) dX8_opens_9 rfl ?_
    refine z_callV (pc := 10) (kc := kX8_bad) (n := 1) (pl := 39) (ci := 7) (C := RX8) (As := [AI 2]) (stk := []) ct_X8_bad2 (gdV rfl rfl (iw29 _ (List.mem_of_getElem? (i := 8) rfl)) (iw29 _ (List.mem_of_getElem? (i := 9) rfl)) (iw29 _ (List.mem_of_getElem? (i := 10) rfl)) (iw1 _ (List.mem_of_getElem? (i := 5) rfl)) (iw29 _ (List.mem_of_getElem? (i := 11) rfl))) rfl ⟨rfl, rfl⟩ (by decide +kernel) ⟨by decide, by decide⟩ (by decide) rfl rfl dX8_opens_10 rfl rfl (Nat.le_of_ble_eq_true rfl) ?_
    refine ⟨_, rfl, by omega, fun v19 h20 eh20 => ?_⟩
    have frh20 : Fr [39, 50] hi h20 := (Fr.call (Fr.rf) eh20.1 (by decide))
    have ff39h20 : FF 39 [10, 11, 12, 13, 14, 15, 16, 26, 27] hi h20 := FF.call (FF.rf) (eh20.2.1) (by decide)
    have th20 : TM h20 S P V st m c := TM.fr t0 eh20.1 eh20.2.1 (by decide) (by decide)
    have xh20 := bad_flk t0 (by first | assumption | (rw [(rfl : hi 39 15 = hi 39 15)]; assumption)) eh20.2.2.2
    refine z_zret (pc := 13) rfl (by omega) dX8_opens_13 ?_
    exact hQ v19 h20 ⟨frh20, ff39h20, by first | exact Or.inr ⟨by omega, by omega, xh20⟩ | exact Or.inl ⟨rfl, by omega, by rw [if_pos (by omega)]; exact qs_open (Or.inl rfl) q0 (by omega) th20 (q0.2.1.push (by rw [(by rw [(eh20.1 50 (by decide) : h20 50 = hi 50)] : h20 50 = hi 50)]; exact u49) (by rw [(by rw [(eh20.2.1 26 (by decide) : h20 39 26 = hi 39 26)] : h20 39 26 = hi 39 26)]; first | done | omega)) (q0.2.2.1.kp (by rw [(eh20.1 49 (by decide) : h20 49 = hi 49)] : h20 49 = hi 49) (by rw [(eh20.2.1 24 (by decide) : h20 39 24 = hi 39 24)] : h20 39 24 = hi 39 24)) (by rw [(by rw [(eh20.2.1 27 (by decide) : h20 39 27 = hi 39 27)] : h20 39 27 = hi 39 27)]; first | done | omega) (by rw [(by rw [(eh20.2.1 24 (by decide) : h20 39 24 = hi 39 24)] : h20 39 24 = hi 39 24)]; first | done | omega) (by rw [(by rw [(eh20.2.1 26 (by decide) : h20 39 26 = hi 39 26)] : h20 39 26 = hi 39 26)]; first | done | omega) (by rw [(rfl : h20 39 15 = h20 39 15)]; first | done | omega) (by rw [(by rw [(eh20.2.1 28 (by decide) : h20 39 28 = hi 39 28)] : h20 39 28 = hi 39 28)]; first | done | omega)⟩ | exact Or.inl ⟨rfl, by omega, by rw [if_neg (by omega)]; exact qs_open (Or.inr rfl) q0 (by omega) th20 (q0.2.1.push (by rw [(by rw [(eh20.1 50 (by decide) : h20 50 = hi 50)] : h20 50 = hi 50)]; exact u49) (by rw [(by rw [(eh20.2.1 26 (by decide) : h20 39 26 = hi 39 26)] : h20 39 26 = hi 39 26)]; first | done | omega)) (q0.2.2.1.kp (by rw [(eh20.1 49 (by decide) : h20 49 = hi 49)] : h20 49 = hi 49) (by rw [(eh20.2.1 24 (by decide) : h20 39 24 = hi 39 24)] : h20 39 24 = hi 39 24)) (by rw [(by rw [(eh20.2.1 27 (by decide) : h20 39 27 = hi 39 27)] : h20 39 27 = hi 39 27)]; first | done | omega) (by rw [(by rw [(eh20.2.1 24 (by decide) : h20 39 24 = hi 39 24)] : h20 39 24 = hi 39 24)]; first | done | omega) (by rw [(by rw [(eh20.2.1 26 (by decide) : h20 39 26 = hi 39 26)] : h20 39 26 = hi 39 26)]; first | done | omega) (by rw [(rfl : h20 39 15 = h20 39 15)]; first | done | omega) (by rw [(by rw [(eh20.2.1 28 (by decide) : h20 39 28 = hi 39 28)] : h20 39 28 = hi 39 28)]; first | done | omega)⟩ | (exfalso; omega)⟩

abbrev kX8_closes : Kd := (cX8_closes, .code yX8_closes cX8_closes 1 none :: wsL_law0, rmL 4, RX8, none, 1)
theorem ct_X8_closes : Ct kX8_closes yX8_closes (fun a hi Q => ∃ S : Nat → Int, ∃ P : Nat → Int, ∃ V : Nat → Int, ∃ st : Nat → Int, ∃ m : Nat, ∃ c : Nat, ∃ oh : Int, ∃ W : List Int, ∃ G : List Ex, a = [AR 40] ∧ (TM hi S P V st m c ∧ QS hi S P V st m oh 1 c W G ∧ topW W ≠ 7) ∧ ∀ h2 : HI, (Fr [39, 49] hi h2 ∧ FF 39 [10, 11, 12, 13, 14, 24, 26, 27] hi h2 ∧ (∃ (c2 : Nat) (W2 : List Int) (G2 : List Ex), QS h2 S P V st m oh 1 c2 W2 G2 ∧ topW W2 ≠ 7 ∧ res oh S P V (1, c, W, G) = res oh S P V (1, c2, W2, G2) ∧ c ≤ c2 ∧ ¬ (S c2 = 10 ∧ 10 ∈ W2))) → Q AU h2) := by
  refine Ct.of (ws' := _) (by decide +kernel) rfl rfl ?_
  intro a hi Q hT
  obtain ⟨S, P, V, st, m, c, oh, W, G, rfl, hpre, hQ⟩ := hT
  refine ⟨Nat.le_of_ble_eq_true rfl, ?_⟩
  show Z kX8_closes Q 0 [(0, AR 40)] [] hi
  have t0 := hpre.1
  have q0 := hpre.2.1
  have n0 := hpre.2.2
  have J0 : ∀ (N : Nat) (hk : HI), (∃ (c1 : Nat) (W1 : List Int) (G1 : List Ex), QS hk S P V st m oh 1 c1 W1 G1 ∧ topW W1 ≠ 7 ∧ res oh S P V (1, c, W, G) = res oh S P V (1, c1, W1, G1) ∧ c ≤ c1) → (Fr [39, 49] hi hk) → (FF 39 [10, 11, 12, 13, 14, 24, 26, 27] hi hk) → ((601 - hk 39 10).toNat) < N → Z kX8_closes Q 0 [(0, AR 40)] [] hk := by
    intro N
    induction N with
    | zero => intro hk _ _ _ _; exact absurd (by assumption) (Nat.not_lt_zero _)
    | succ N ih0 =>
      intro hk i1 frlhk ffl39hk hm0
      obtain ⟨c1, W1, G1, qk, nk, rk, ck⟩ := i1
      have tk := qk.1
      have bk := qk.bds
      have o27 := qk.2.2.2.1
      have f15hk : hk 39 15 = hi 39 15 := ffl39hk 15 (by decide)
      have f28hk : hk 39 28 = hi 39 28 := ffl39hk 28 (by decide)
      refine z_aload_n (pc := 0) (x := 40) dX8_closes_0 rfl 0 rfl ?_
      refine z_bipush (pc := 1) (v := 41) dX8_closes_1 (by decide +kernel) ?_
      refine z_callV (pc := 3) (kc := kX8_isSign) (n := 1) (pl := 39) (ci := 7) (C := RX8) (As := [AI 41]) (stk := []) ct_X8_isSign (gdV rfl rfl (iw30 _ (List.mem_of_getElem? (i := 6) rfl)) (iw30 _ (List.mem_of_getElem? (i := 7) rfl)) (iw30 _ (List.mem_of_getElem? (i := 8) rfl)) (iw1 _ (List.mem_of_getElem? (i := 5) rfl)) (iw30 _ (List.mem_of_getElem? (i := 9) rfl))) rfl ⟨rfl, rfl⟩ (by decide +kernel) ⟨by decide, by decide⟩ (by decide) rfl rfl dX8_closes_3 rfl rfl (Nat.le_of_ble_eq_true rfl) ?_
      refine ⟨_, rfl, by omega, fun v1 ev1 => ?_⟩
      have wv1 := isw ev1 (tk.sg 10 (by decide) (by decide))
      refine z_if_eq (pc := 6) (tgt := 63) dX8_closes_6 (by decide) ⟨by omega, by omega⟩ (fun c2 => ?_) (fun c2 => ?_)
      · refine z_vret (pc := 63) rfl dX8_closes_63 ?_
        exact hQ hk ⟨frlhk, ffl39hk, by first | exact ⟨c1, W1, G1, qk, nk, rk, ck, fun z => hr z.2⟩ | exact ⟨c1, W1, G1, qk, nk, rk, ck, fun z => absurd z.1 (by omega)⟩⟩
      · refine z_aload_n (pc := 9) (x := 40) dX8_closes_9 rfl 0 rfl ?_
        refine z_callV (pc := 10) (kc := kX8_hasRound) (n := 0) (pl := 39) (ci := 7) (C := RX8) (As := []) (stk := []) ct_X8_hasRound (gdV rfl rfl (iw38 _ (List.mem_of_getElem? (i := 11) rfl)) (iw38 _ (List.mem_of_getElem? (i := 12) rfl)) (iw38 _ (List.mem_of_getElem? (i := 13) rfl)) (iw1 _ (List.mem_of_getElem? (i := 5) rfl)) (iw38 _ (List.mem_of_getElem? (i := 14) rfl))) rfl ⟨rfl, rfl⟩ (by decide +kernel) ⟨by decide, by decide⟩ (by decide) rfl rfl dX8_closes_10 rfl rfl (Nat.le_of_ble_eq_true rfl) ?_
        refine ⟨W1, rfl, ⟨qk.2.1, by omega⟩, fun v3 ev3 => ?_⟩
        rcases ev3 with ⟨rfl, hr⟩ | ⟨rfl, hr⟩
        · skip
          refine z_if_eq (pc := 13) (tgt := 63) dX8_closes_13 (by decide) ⟨by decide, by decide⟩ (fun q => absurd q (by decide)) (fun _ => ?_)
          have J16 : ∀ (N : Nat) (hj : HI), (∃ (W3 : List Int) (G3 : List Ex), QS hj S P V st m oh 1 c1 W3 G3 ∧ topW W3 ≠ 7 ∧ res oh S P V (1, c, W, G) = res oh S P V (1, c1, W3, G3) ∧ 10 ∈ W3) → (Fr [39, 49] hi hj) → (FF 39 [10, 11, 12, 13, 14, 24, 26, 27] hi hj) → ((hj 39 26).toNat) < N → Z kX8_closes Q 16 [(0, AR 40)] [] hj := by
            intro N
            induction N with
            | zero => intro hj _ _ _ _; exact absurd (by assumption) (Nat.not_lt_zero _)
            | succ N ih16 =>
              intro hj j1 frlhj ffl39hj hm16
              obtain ⟨W3, G3, qj, nj, rj, mj⟩ := j1
              have tj := qj.1
              have bj := qj.bds
              have o27j := qj.2.2.2.1
              have f15hj : hj 39 15 = hi 39 15 := ffl39hj 15 (by decide)
              have f28hj : hj 39 28 = hi 39 28 := ffl39hj 28 (by decide)
              refine z_aload_n (pc := 16) (x := 40) dX8_closes_16 rfl 0 rfl ?_
              refine z_bipush (pc := 17) (v := 10) dX8_closes_17 (by decide +kernel) ?_
              refine z_callV (pc := 19) (kc := kX8_isTop) (n := 1) (pl := 39) (ci := 7) (C := RX8) (As := [AI 10]) (stk := []) ct_X8_isTop (gdV rfl rfl (iw37 _ (List.mem_of_getElem? (i := 23) rfl)) (iw38 _ (List.mem_of_getElem? (i := 0) rfl)) (iw38 _ (List.mem_of_getElem? (i := 1) rfl)) (iw1 _ (List.mem_of_getElem? (i := 5) rfl)) (iw38 _ (List.mem_of_getElem? (i := 2) rfl))) rfl ⟨rfl, rfl⟩ (by decide +kernel) ⟨by decide, by decide⟩ (by decide) rfl rfl dX8_closes_19 rfl rfl (Nat.le_of_ble_eq_true rfl) ?_
              refine ⟨_, W3, rfl, ⟨qj.2.1, by have := qj.bds; omega, ⟨by decide, by decide⟩, by decide⟩, fun v4 ev4 => ?_⟩
              refine z_if_ne (pc := 22) (tgt := 32) dX8_closes_22 (by decide) ⟨by omega, by omega⟩ (fun c5 => ?_) (fun c5 => ?_)
              · obtain ⟨W4, eW⟩ := qj.top10 (by omega)
                subst eW
                refine z_aload_n (pc := 32) (x := 40) dX8_closes_32 rfl 0 rfl ?_
                refine z_dup (pc := 33) dX8_closes_33 rfl ?_
                refine z_getI (pc := 34) (pl := 39) (f := 26) (ci := 7) (C := RX8) (T := TX8) (N := 33) hu_X8 (by decide) rfl rfl (by decide) rfl (List.mem_cons_of_mem _ (iw36 _ (List.mem_of_getElem? (i := 3) rfl))) rfl (by decide) dX8_closes_34 (fun v6 ev6 rv6 => ?_)
                refine z_iconst (pc := 37) (v := 1) dX8_closes_37 rfl ?_
                refine z_isub (pc := 38) dX8_closes_38 (fun v7 ev7 => ?_)
                refine z_putI (pc := 39) (pl := 39) (f := 26) (ci := 7) (C := RX8) (T := TX8) (N := 33) hu_X8 tyX8_ok nmX8 (by decide) rfl rfl (by decide) rfl (List.mem_cons_of_mem _ (iw36 _ (List.mem_of_getElem? (i := 3) rfl))) rfl rfl (ty := .int) (by decide +kernel) rfl rfl ⟨by omega, by omega⟩ dX8_closes_39 (fun h8 eh8 => ?_)
                have frh8 : Fr [39, 49] hi h8 := (Fr.put frlhj eh8 (by decide))
                have ff39h8 : FF 39 [10, 11, 12, 13, 14, 24, 26, 27] hi h8 := FF.put ffl39hj eh8 (by decide)
                have th8 : TM h8 S P V st m c1 := TM.put tj eh8 (by decide)
                refine z_aload_n (pc := 42) (x := 40) dX8_closes_42 rfl 0 rfl ?_
                refine z_dup (pc := 43) dX8_closes_43 rfl ?_
                refine z_getI (pc := 44) (pl := 39) (f := 27) (ci := 7) (C := RX8) (T := TX8) (N := 33) hu_X8 (by decide) rfl rfl (by decide) rfl (List.mem_cons_of_mem _ (iw36 _ (List.mem_of_getElem? (i := 4) rfl))) rfl (by decide) dX8_closes_44 (fun v9 ev9 rv9 => ?_)
                rw [(by rw [eh8]; rfl : h8 39 27 = hj 39 27)] at ev9
                refine z_iconst (pc := 47) (v := 1) dX8_closes_47 rfl ?_
                refine z_isub (pc := 48) dX8_closes_48 (fun v10 ev10 => ?_)
                refine z_putI (pc := 49) (pl := 39) (f := 27) (ci := 7) (C := RX8) (T := TX8) (N := 33) hu_X8 tyX8_ok nmX8 (by decide) rfl rfl (by decide) rfl (List.mem_cons_of_mem _ (iw36 _ (List.mem_of_getElem? (i := 4) rfl))) rfl rfl (ty := .int) (by decide +kernel) rfl rfl ⟨by omega, by omega⟩ dX8_closes_49 (fun h11 eh11 => ?_)
                have frh11 : Fr [39, 49] hi h11 := (Fr.put frh8 eh11 (by decide))
                have ff39h11 : FF 39 [10, 11, 12, 13, 14, 24, 26, 27] hi h11 := FF.put ff39h8 eh11 (by decide)
                have th11 : TM h11 S P V st m c1 := TM.put th8 eh11 (by decide)
                refine z_aload_n (pc := 52) (x := 40) dX8_closes_52 rfl 0 rfl ?_
                refine z_callV (pc := 53) (kc := kX8_go) (n := 0) (pl := 39) (ci := 7) (C := RX8) (As := []) (stk := []) ct_X8_go2 (gdV rfl rfl (iw27 _ (List.mem_of_getElem? (i := 11) rfl)) (iw27 _ (List.mem_of_getElem? (i := 12) rfl)) (iw27 _ (List.mem_of_getElem? (i := 13) rfl)) (iw1 _ (List.mem_of_getElem? (i := 5) rfl)) (iw27 _ (List.mem_of_getElem? (i := 14) rfl))) rfl ⟨rfl, rfl⟩ (by decide +kernel) ⟨by decide, by decide⟩ (by decide) rfl rfl dX8_closes_53 rfl rfl (Nat.le_of_ble_eq_true rfl) ?_
                refine ⟨S, P, V, st, m, c1, rfl, ⟨th11, by omega, by omega⟩, fun h12 eh12 => ?_⟩
                have frh12 : Fr [39, 49] hi h12 := (Fr.call frh11 eh12.1 (by decide))
                have ff39h12 : FF 39 [10, 11, 12, 13, 14, 24, 26, 27] hi h12 := FF.call ff39h11 (eh12.2.1) (by decide)
                have th12 : TM h12 S P V st m (c1 + 1) := eh12.2.2
                have qp := qs_pop (h2 := h12) qj th12 (qj.2.1.pop (by rw [(eh12.1 50 (by decide) : h12 50 = h11 50), (by rw [eh11]; rfl : h11 50 = h8 50), (by rw [eh8]; rfl : h8 50 = hj 50)]) (by rw [(eh12.2.1 26 (by decide) : h12 39 26 = h11 39 26), (by rw [eh11]; rfl : h11 39 26 = h8 39 26), (by rw [eh8]; rfl : h8 39 26 = v7)]; omega)) (qj.2.2.1.kp (by rw [(eh12.1 49 (by decide) : h12 49 = h11 49), (by rw [eh11]; rfl : h11 49 = h8 49), (by rw [eh8]; rfl : h8 49 = hj 49)]) (by rw [(eh12.2.1 24 (by decide) : h12 39 24 = h11 39 24), (by rw [eh11]; rfl : h11 39 24 = h8 39 24), (by rw [eh8]; rfl : h8 39 24 = hj 39 24)])) (by rw [(eh12.2.1 27 (by decide) : h12 39 27 = h11 39 27), (by rw [eh11]; rfl : h11 39 27 = v10)]; omega) (by rw [(eh12.2.1 24 (by decide) : h12 39 24 = h11 39 24), (by rw [eh11]; rfl : h11 39 24 = h8 39 24), (by rw [eh8]; rfl : h8 39 24 = hj 39 24)]) (by rw [(eh12.2.1 26 (by decide) : h12 39 26 = h11 39 26), (by rw [eh11]; rfl : h11 39 26 = h8 39 26), (by rw [eh8]; rfl : h8 39 26 = v7)]; omega) (by rw [(eh12.2.1 15 (by decide) : h12 39 15 = h11 39 15), (by rw [eh11]; rfl : h11 39 15 = h8 39 15), (by rw [eh8]; rfl : h8 39 15 = hj 39 15)]) (by rw [(eh12.2.1 28 (by decide) : h12 39 28 = h11 39 28), (by rw [eh11]; rfl : h11 39 28 = h8 39 28), (by rw [eh8]; rfl : h8 39 28 = hj 39 28)])
                refine z_aload_n (pc := 56) (x := 40) dX8_closes_56 rfl 0 rfl ?_
                refine z_callV (pc := 57) (kc := kX8_dropsNots) (n := 0) (pl := 39) (ci := 7) (C := RX8) (As := []) (stk := []) ct_X8_dropsNots (gdV rfl rfl (iw37 _ (List.mem_of_getElem? (i := 19) rfl)) (iw37 _ (List.mem_of_getElem? (i := 20) rfl)) (iw37 _ (List.mem_of_getElem? (i := 21) rfl)) (iw1 _ (List.mem_of_getElem? (i := 5) rfl)) (iw37 _ (List.mem_of_getElem? (i := 22) rfl))) rfl ⟨rfl, rfl⟩ (by decide +kernel) ⟨by decide, by decide⟩ (by decide) rfl rfl dX8_closes_57 rfl rfl (Nat.le_of_ble_eq_true rfl) ?_
                refine ⟨S, P, V, st, m, (c1 + 1), oh, W4, G3, rfl, ⟨qp.1, qp⟩, fun h13 eh13 => ?_⟩
                have frh13 : Fr [39, 49] hi h13 := (Fr.call frh12 eh13.1 (by decide))
                have ff39h13 : FF 39 [10, 11, 12, 13, 14, 24, 26, 27] hi h13 := FF.call ff39h12 (eh13.2.1) (by decide)
                have th13 : TM h13 S P V st m (c1 + 1) := TM.fr th12 eh13.1 eh13.2.1 (by decide) (by decide)
                obtain ⟨W5, G5, q5, n5, r5⟩ := eh13.2.2
                refine z_goto (pc := 60) (tgt := 0) dX8_closes_60 (by decide) ?_
                exact ih0 h13 (⟨c1 + 1, W5, G5, q5, n5, (rj.trans (r_pop (by omega) (by omega))).trans r5, by omega⟩) (frh13) (ff39h13) (by have := TM.adv tk th13 (by omega); omega)
              · obtain ⟨o, W4, b, a, G4, ho, eW, eG, n4⟩ := qj.topB (qj.topR nj mj (by omega))
                subst eW
                subst eG
                have p26 := qj.2.1.hd.2
                refine z_aload_n (pc := 25) (x := 40) dX8_closes_25 rfl 0 rfl ?_
                refine z_callV (pc := 26) (kc := kX8_drops) (n := 0) (pl := 39) (ci := 7) (C := RX8) (As := []) (stk := []) ct_X8_drops (gdV rfl rfl (iw38 _ (List.mem_of_getElem? (i := 3) rfl)) (iw38 _ (List.mem_of_getElem? (i := 4) rfl)) (iw38 _ (List.mem_of_getElem? (i := 5) rfl)) (iw1 _ (List.mem_of_getElem? (i := 5) rfl)) (iw38 _ (List.mem_of_getElem? (i := 6) rfl))) rfl ⟨rfl, rfl⟩ (by decide +kernel) ⟨by decide, by decide⟩ (by decide) rfl rfl dX8_closes_26 rfl rfl (Nat.le_of_ble_eq_true rfl) ?_
                refine ⟨o, W4, (b :: a :: G4), rfl, ⟨qj.2.1, qj.2.2.1, by omega, qj.okB ho, by omega⟩, fun h14 eh14 => ?_⟩
                have frh14 : Fr [39, 49] hi h14 := (Fr.call frlhj eh14.1 (by decide))
                have ff39h14 : FF 39 [10, 11, 12, 13, 14, 24, 26, 27] hi h14 := FF.call ffl39hj (eh14.2.1) (by decide)
                have th14 : TM h14 S P V st m c1 := TM.fr tj eh14.1 eh14.2.1 (by decide) (by decide)
                have dw := eh14.2.2.1
                have dc := eh14.2.2.2.1
                have d24 := eh14.2.2.2.2.1
                have d26 := eh14.2.2.2.2.2
                rw [apC_o (Or.inr ho)] at dc
                refine z_goto (pc := 29) (tgt := 16) dX8_closes_29 (by decide) ?_
                exact ih16 h14 (⟨W4, bin o a b :: G4, qs_bin ho qj th14 dw dc (by rw [(by rw [(eh14.2.1 27 (by decide) : h14 39 27 = hj 39 27)] : h14 39 27 = hj 39 27)]; first | done | omega) (by rw [(rfl : h14 39 24 = h14 39 24)]; first | done | omega) (by rw [(rfl : h14 39 26 = h14 39 26)]; first | done | omega) (by rw [(by rw [(eh14.2.1 15 (by decide) : h14 39 15 = hj 39 15), (ffl39hj 15 (by decide) : hj 39 15 = hi 39 15)] : h14 39 15 = hi 39 15)]; first | done | omega) (by rw [(by rw [(eh14.2.1 28 (by decide) : h14 39 28 = hj 39 28), (ffl39hj 28 (by decide) : hj 39 28 = hi 39 28)] : h14 39 28 = hi 39 28)]; first | done | omega), n4, rj.trans (r_binX ho (Or.inr (Or.inr (Or.inl ⟨by omega, (mem_bin ho).mp mj⟩)))), (mem_bin ho).mp mj⟩) (frh14) (ff39h14) (by rw [(rfl : h14 39 26 = h14 39 26)]; omega)
          exact J16 _ hk (⟨W1, G1, qk, nk, rk, hr⟩) (frlhk) (ffl39hk) (Nat.lt_succ_self _)
        · skip
          refine z_if_eq (pc := 13) (tgt := 63) dX8_closes_13 (by decide) ⟨by decide, by decide⟩ (fun _ => ?_) (fun q => absurd q (by decide))
          refine z_vret (pc := 63) rfl dX8_closes_63 ?_
          exact hQ hk ⟨frlhk, ffl39hk, by first | exact ⟨c1, W1, G1, qk, nk, rk, ck, fun z => hr z.2⟩ | exact ⟨c1, W1, G1, qk, nk, rk, ck, fun z => absurd z.1 (by omega)⟩⟩
  exact J0 _ hi (⟨c, W, G, q0, n0, rfl, Nat.le_refl c⟩) ((Fr.rf)) ((FF.rf)) (Nat.lt_succ_self _)

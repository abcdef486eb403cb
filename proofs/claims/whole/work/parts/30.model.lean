/-! SPECS: the plain form -/
def eO (f : Nat → Int) (k w : Int) : Int := f (2 + 4 * k.toNat + w.toNat)
theorem eO_i {f : Nat → Int} {k w i : Int} (h : i = 2 + 4 * k + w) (h0 : 0 ≤ k) (h1 : 0 ≤ w) : f i.toNat = eO f k w := by unfold eO; congr 1; omega
theorem fst_none {f : Nat → Int} {n x h v : Int} (h1 : Fst (fun z => nO f z = x ∧ al f z h) n v) : v ≠ -1 ↔ Hrs f n x (-1) h := by
  rcases h1 with ⟨a1, a2, a3, a4⟩ | ⟨a1, a2⟩
  · exact ⟨fun _ => ⟨v, a1, a2, by omega, a3.1, a3.2⟩, fun _ => by omega⟩
  · exact ⟨fun q => absurd a1 q, fun ⟨z, b1, b2, b3, b4, b5⟩ => absurd ⟨b4, b5⟩ (a2 z b1 b2)⟩
/-- a locked hour whose life or none is another in g -/
def LKm (f g : Nat → Int) (x : Int) : Prop := ∃ h, (0 ≤ h ∧ h < f 1) ∧ ¬ (Hrs f (f 0) x (-1) h ↔ Hrs g (g 0) x (-1) h)
def cX (g : Nat → Int) (x h : Int) (n : Nat) : Int := sm (fun z => if nO g z = x ∧ al g z h then 1 else 0) n
def CLm (g : Nat → Int) (x : Int) : Prop := ∃ h, (0 ≤ h ∧ h < 64) ∧ 1 < cX g x h (g 0).toNat
theorem cX_bd (f : Nat → Int) (x h : Int) (n : Nat) : 0 ≤ cX f x h n ∧ cX f x h n ≤ n := by
  have q := sm_bd (g := fun z => if nO f z = x ∧ al f z h then 1 else 0) (a := 0) (b := 1) (by decide) (by decide) (n := n) (fun z _ _ => by
    by_cases hc : nO f z = x ∧ al f z h
    · simp only [if_pos hc]; omega
    · simp only [if_neg hc]; omega)
  have q1 : (n : Int) * 0 ≤ cX f x h n := q.1
  have q2 : cX f x h n ≤ (n : Int) * 1 := q.2
  omega
def PutAt (f f2 : Nat → Int) (k x b d w : Int) : Prop := f2 0 = f 0 ∧ f2 1 = f 1 ∧ Ent f2 k x b d w ∧ ∀ z, 0 ≤ z → z ≠ k → SameE f2 z f z
theorem putAt_mk {f : Nat → Int} {k x b d w i0 i1 i2 i3 : Int} (h0 : 0 ≤ k) (e0 : i0 = 2 + 4 * k) (e1 : i1 = 2 + 4 * k + 1) (e2 : i2 = 2 + 4 * k + 2) (e3 : i3 = 2 + 4 * k + 3) : PutAt f (updI (updI (updI (updI f i0.toNat x) i1.toNat b) i2.toNat d) i3.toNat w) k x b d w := by
  have key : ∀ j : Nat, (updI (updI (updI (updI f i0.toNat x) i1.toNat b) i2.toNat d) i3.toNat w) j = if j = i3.toNat then w else if j = i2.toNat then d else if j = i1.toNat then b else if j = i0.toNat then x else f j := fun j => rfl
  refine ⟨?_, ?_, ⟨?_, ?_, ?_, ?_⟩, fun z z0 z1 => ⟨?_, ?_, ?_, ?_⟩⟩
  · rw [key, if_neg (by omega), if_neg (by omega), if_neg (by omega), if_neg (by omega)]
  · rw [key, if_neg (by omega), if_neg (by omega), if_neg (by omega), if_neg (by omega)]
  · unfold nO; rw [key, if_neg (by omega), if_neg (by omega), if_neg (by omega), if_pos (by omega)]
  · unfold bO; rw [key, if_neg (by omega), if_neg (by omega), if_pos (by omega)]
  · unfold dO; rw [key, if_neg (by omega), if_pos (by omega)]
  · unfold wO; rw [key, if_pos (by omega)]
  · unfold nO; rw [key, if_neg (by omega), if_neg (by omega), if_neg (by omega), if_neg (by omega)]
  · unfold bO; rw [key, if_neg (by omega), if_neg (by omega), if_neg (by omega), if_neg (by omega)]
  · unfold dO; rw [key, if_neg (by omega), if_neg (by omega), if_neg (by omega), if_neg (by omega)]
  · unfold wO; rw [key, if_neg (by omega), if_neg (by omega), if_neg (by omega), if_neg (by omega)]
theorem put_fin {hi h2 : HI} {k x b d w i0 i1 i2 i3 : Int} (e : h2 = hput hi 41 (updI (updI (updI (updI (hi 41) i0.toNat x) i1.toNat b) i2.toNat d) i3.toNat w)) (h0 : 0 ≤ k) (e0 : i0 = 2 + 4 * k) (e1 : i1 = 2 + 4 * k + 1) (e2 : i2 = 2 + 4 * k + 2) (e3 : i3 = 2 + 4 * k + 3) : ∃ f2, h2 = hput hi 41 f2 ∧ PutAt (hi 41) f2 k x b d w := ⟨_, e, putAt_mk h0 e0 e1 e2 e3⟩
/-- cells from a to i are those four on -/
def shI (f : Nat → Int) (a i : Int) (j : Nat) : Int := if a ≤ j ∧ (j : Int) < i then f (j + 4) else f j
theorem shI_0 {hi : HI} {a i : Int} (h : i ≤ a) : hi = hput hi 41 (shI (hi 41) a i) := by
  funext p; unfold hput
  by_cases q : p = 41
  · rw [if_pos q, q]; funext j; unfold shI; rw [if_neg (by omega)]
  · rw [if_neg q]
theorem shI_step {hi h h2 : HI} {a i i' v j : Int} (e : h = hput hi 41 (shI (hi 41) a i)) (h0 : 0 ≤ a) (h1 : a ≤ i) (hi' : i' = i + 1) (hj : j = i + 4) (hv : v = h 41 j.toNat) (e2 : h2 = hput h 41 (updI (h 41) i.toNat v)) : h2 = hput hi 41 (shI (hi 41) a i') := by
  have q : h 41 = shI (hi 41) a i := by rw [e]; exact hput_same _ _ _
  rw [e2, hv, q, e, hput_hput]
  congr 1; funext z
  show (if z = i.toNat then _ else _) = _
  unfold shI
  by_cases q2 : z = i.toNat
  · rw [if_pos q2, if_neg (by omega), if_pos (by omega)]; congr 1; omega
  · rw [if_neg q2]
    by_cases q3 : a ≤ (z : Int) ∧ (z : Int) < i
    · rw [if_pos q3, if_pos (by omega)]
    · rw [if_neg q3, if_neg (by omega)]
def RemM (f f2 : Nat → Int) (k : Int) : Prop := f2 0 = f 0 - 1 ∧ f2 1 = f 1 ∧ (∀ z, 0 ≤ z → z < k → SameE f2 z f z) ∧ ∀ z, k ≤ z → z < 40 → SameE f2 z f (z + 1)
theorem rem_mk {f : Nat → Int} {k i v : Int} (h0 : 0 ≤ k) (hi : i = 162) (hv : v = f 0 - 1) : RemM f (updI (shI f (2 + 4 * k) i) 0 v) k := by
  have key : ∀ j : Nat, (updI (shI f (2 + 4 * k) i) 0 v) j = if j = 0 then v else if 2 + 4 * k ≤ (j : Int) ∧ (j : Int) < i then f (j + 4) else f j := fun j => rfl
  refine ⟨?_, ?_, fun z z0 z1 => ⟨?_, ?_, ?_, ?_⟩, fun z z0 z1 => ⟨?_, ?_, ?_, ?_⟩⟩
  · rw [key, if_pos rfl, hv]
  · rw [key, if_neg (by omega), if_neg (by omega)]
  · unfold nO; rw [key, if_neg (by omega), if_neg (by omega)]
  · unfold bO; rw [key, if_neg (by omega), if_neg (by omega)]
  · unfold dO; rw [key, if_neg (by omega), if_neg (by omega)]
  · unfold wO; rw [key, if_neg (by omega), if_neg (by omega)]
  · unfold nO; rw [key, if_neg (by omega), if_pos (by omega)]; congr 1; omega
  · unfold bO; rw [key, if_neg (by omega), if_pos (by omega)]; congr 1; omega
  · unfold dO; rw [key, if_neg (by omega), if_pos (by omega)]; congr 1; omega
  · unfold wO; rw [key, if_neg (by omega), if_pos (by omega)]; congr 1; omega
theorem rem_finM {hi h h2 : HI} {k i v a : Int} (e : h = hput hi 41 (shI (hi 41) a i)) (h0 : 0 ≤ k) (ha : a = 2 + 4 * k) (hi' : i = 162) (hw : ∃ u, u = h 41 0 ∧ v = u - 1) (e2 : h2 = hput h 41 (updI (h 41) 0 v)) : ∃ f2, h2 = hput hi 41 f2 ∧ RemM (hi 41) f2 k := by
  subst ha
  have q : h 41 = shI (hi 41) (2 + 4 * k) i := by rw [e]; exact hput_same _ _ _
  obtain ⟨u, hu, hv⟩ := hw
  refine ⟨_, by rw [e2, q, e, hput_hput], rem_mk h0 hi' ?_⟩
  rw [hv, hu, q]; unfold shI; rw [if_neg (by omega)]
/-- n cells from sp of f laid from dp -/
theorem cpyI_0 {hi : HI} {p q : Nat} {sp dp : Nat} {n : Int} (h : n = 0) : hi = hput hi p (cpyI (hi q) (hi p) sp dp n.toNat) := by
  funext a; unfold hput
  by_cases e : a = p
  · rw [if_pos e, e]; funext j; unfold cpyI; rw [if_neg (by omega)]
  · rw [if_neg e]
theorem cpyI_step {hi h h2 : HI} {p q : Nat} (hpq : p ≠ q) {sp dp n n' v i j : Int} (e : h = hput hi p (cpyI (hi q) (hi p) sp.toNat dp.toNat n.toNat)) (h0 : 0 ≤ sp ∧ 0 ≤ dp ∧ 0 ≤ n) (hn : n' = n + 1) (hi' : i = dp + n) (hj : j = sp + n) (hv : v = hi q j.toNat) (e2 : h2 = hput h p (updI (h p) i.toNat v)) : h2 = hput hi p (cpyI (hi q) (hi p) sp.toNat dp.toNat n'.toNat) := by
  have q : h p = cpyI (hi q) (hi p) sp.toNat dp.toNat n.toNat := by rw [e]; exact hput_same _ _ _
  rw [e2, hv, q, e, hput_hput]
  congr 1; funext z
  show (if z = i.toNat then _ else _) = _
  unfold cpyI
  by_cases q2 : z = i.toNat
  · rw [if_pos q2, if_pos (by omega)]; congr 1; omega
  · rw [if_neg q2]
    by_cases q3 : dp.toNat ≤ z ∧ z < dp.toNat + n.toNat
    · rw [if_pos q3, if_pos (by omega)]
    · rw [if_neg q3, if_neg (by omega)]
theorem Fst.rng41 {P : Int → Prop} {n v : Int} (h : Fst P n v) (h0 : n ≤ 41) : -1 ≤ v ∧ v < 41 := by
  rcases h with ⟨a1, a2, a3, a4⟩ | ⟨a1, a2⟩ <;> omega
abbrev kX8_within : Kd := (cX8_within, .code yX8_within cX8_within 6 (some .boolean) :: wsL_law0, rmL 1, RX8, (some .boolean), 6)
theorem ct_X8_within : Ct kX8_within yX8_within (fun a hi Q => ∃ x : Int, ∃ y : Int, ∃ z : Int, a = [AL x, AL y, AL z] ∧ (inL x ∧ inL y ∧ inL z) ∧ ∀ v : Int, ((v = 1 ∧ (y ≤ x ∧ x ≤ z)) ∨ (v = 0 ∧ ¬ (y ≤ x ∧ x ≤ z))) → Q (AI v) hi) := by
  refine Ct.of (ws' := _) (by decide +kernel) rfl rfl ?_
  intro a hi Q hT
  obtain ⟨x, y, z, rfl, hpre, hQ⟩ := hT
  refine ⟨Nat.le_of_ble_eq_true rfl, ?_⟩
  show Z kX8_within Q 0 [(0, AL x), (2, AL y), (4, AL z)] [] hi
  refine z_lload_n (pc := 0) dX8_within_0 rfl 0 rfl ?_
  refine z_lload_n (pc := 1) dX8_within_1 rfl 1 rfl ?_
  refine z_lcmp (pc := 2) dX8_within_2 ⟨by omega, by omega⟩ ⟨by omega, by omega⟩ (fun v1 ev1 => ?_)
  refine z_if_lt (pc := 3) (tgt := 17) dX8_within_3 (by decide) ⟨by omega, by omega⟩ (fun c2 => ?_) (fun c2 => ?_)
  · refine z_iconst (pc := 17) (v := 0) dX8_within_17 rfl ?_
    refine z_zret (pc := 18) rfl (by decide) dX8_within_18 ?_
    exact hQ 0 (by omega)
  · refine z_lload_n (pc := 6) dX8_within_6 rfl 0 rfl ?_
    refine z_lload (pc := 7) dX8_within_7 2 rfl ?_
    refine z_lcmp (pc := 9) dX8_within_9 ⟨by omega, by omega⟩ ⟨by omega, by omega⟩ (fun v3 ev3 => ?_)
    refine z_if_gt (pc := 10) (tgt := 17) dX8_within_10 (by decide) ⟨by omega, by omega⟩ (fun c4 => ?_) (fun c4 => ?_)
    · refine z_iconst (pc := 17) (v := 0) dX8_within_17 rfl ?_
      refine z_zret (pc := 18) rfl (by decide) dX8_within_18 ?_
      exact hQ 0 (by omega)
    · refine z_iconst (pc := 13) (v := 1) dX8_within_13 rfl ?_
      refine z_goto (pc := 14) (tgt := 18) dX8_within_14 (by decide) ?_
      refine z_zret (pc := 18) rfl (by decide) dX8_within_18 ?_
      exact hQ 1 (by omega)

abbrev kX8_isNumber : Kd := (cX8_isNumber, .code yX8_isNumber cX8_isNumber 1 (some .boolean) :: wsL_law0, rmL 2, RX8, (some .boolean), 1)
theorem ct_X8_isNumber : Ct kX8_isNumber yX8_isNumber (fun a hi Q => ∃ x : Int, a = [AI x] ∧ (inR x) ∧ ∀ v : Int, ((v = 1 ∧ (0 ≤ x ∧ x ≤ 999)) ∨ (v = 0 ∧ ¬ (0 ≤ x ∧ x ≤ 999))) → Q (AI v) hi) := by
  refine Ct.of (ws' := _) (by decide +kernel) rfl rfl ?_
  intro a hi Q hT
  obtain ⟨x, rfl, hpre, hQ⟩ := hT
  refine ⟨Nat.le_of_ble_eq_true rfl, ?_⟩
  show Z kX8_isNumber Q 0 [(0, AI x)] [] hi
  refine z_iload_n (pc := 0) dX8_isNumber_0 rfl 0 rfl ?_
  refine z_i2l (pc := 1) dX8_isNumber_1 ⟨by omega, by omega⟩ ?_
  refine z_lconst (pc := 2) (v := 0) dX8_isNumber_2 (by decide +kernel) ?_
  refine z_ldc2 (pc := 3) (v := 999) (x := 999) (List.mem_cons_of_mem _ (iw9 _ (List.mem_of_getElem? (i := 8) rfl))) (by decide +kernel) dX8_isNumber_3 ?_
  refine z_callS (pc := 6) (kc := kX8_within) (n := 3) (As := [AL x, AL 0, AL 999]) (stk := []) ct_X8_within (gdS rfl rfl (iw9 _ (List.mem_of_getElem? (i := 9) rfl)) (iw9 _ (List.mem_of_getElem? (i := 10) rfl)) (iw1 _ (List.mem_of_getElem? (i := 5) rfl)) (iw9 _ (List.mem_of_getElem? (i := 11) rfl))) rfl ⟨rfl, rfl⟩ (by decide +kernel) ⟨by decide, by decide⟩ dX8_isNumber_6 rfl rfl (Nat.le_of_ble_eq_true rfl) ?_
  refine ⟨_, _, _, rfl, ⟨⟨by omega, by omega⟩, ⟨by decide, by decide⟩, ⟨by decide, by decide⟩⟩, fun v1 ev1 => ?_⟩
  refine z_zret (pc := 9) rfl (by omega) dX8_isNumber_9 ?_
  exact hQ v1 (by omega)

abbrev kX8_isHour : Kd := (cX8_isHour, .code yX8_isHour cX8_isHour 1 (some .boolean) :: wsL_law0, rmL 2, RX8, (some .boolean), 1)
theorem ct_X8_isHour : Ct kX8_isHour yX8_isHour (fun a hi Q => ∃ x : Int, a = [AI x] ∧ (inR x) ∧ ∀ v : Int, ((v = 1 ∧ (0 ≤ x ∧ x ≤ 63)) ∨ (v = 0 ∧ ¬ (0 ≤ x ∧ x ≤ 63))) → Q (AI v) hi) := by
  refine Ct.of (ws' := _) (by decide +kernel) rfl rfl ?_
  intro a hi Q hT
  obtain ⟨x, rfl, hpre, hQ⟩ := hT
  refine ⟨Nat.le_of_ble_eq_true rfl, ?_⟩
  show Z kX8_isHour Q 0 [(0, AI x)] [] hi
  refine z_iload_n (pc := 0) dX8_isHour_0 rfl 0 rfl ?_
  refine z_i2l (pc := 1) dX8_isHour_1 ⟨by omega, by omega⟩ ?_
  refine z_lconst (pc := 2) (v := 0) dX8_isHour_2 (by decide +kernel) ?_
  refine z_ldc2 (pc := 3) (v := 63) (x := 63) (List.mem_cons_of_mem _ (iw9 _ (List.mem_of_getElem? (i := 15) rfl))) (by decide +kernel) dX8_isHour_3 ?_
  refine z_callS (pc := 6) (kc := kX8_within) (n := 3) (As := [AL x, AL 0, AL 63]) (stk := []) ct_X8_within (gdS rfl rfl (iw9 _ (List.mem_of_getElem? (i := 9) rfl)) (iw9 _ (List.mem_of_getElem? (i := 10) rfl)) (iw1 _ (List.mem_of_getElem? (i := 5) rfl)) (iw9 _ (List.mem_of_getElem? (i := 11) rfl))) rfl ⟨rfl, rfl⟩ (by decide +kernel) ⟨by decide, by decide⟩ dX8_isHour_6 rfl rfl (Nat.le_of_ble_eq_true rfl) ?_
  refine ⟨_, _, _, rfl, ⟨⟨by omega, by omega⟩, ⟨by decide, by decide⟩, ⟨by decide, by decide⟩⟩, fun v1 ev1 => ?_⟩
  refine z_zret (pc := 9) rfl (by omega) dX8_isHour_9 ?_
  exact hQ v1 (by omega)

abbrev kX8_copies : Kd := (cX8_copies, .code yX8_copies cX8_copies 5 none :: wsL_law0, rmL 1, RX8, none, 5)
theorem ct_X8_copies_nt : Ct kX8_copies yX8_copies (fun a hi Q => ∃ sp : Int, ∃ dp : Int, a = [AR 41, AI sp, AR 42, AI dp] ∧ ((0 ≤ sp ∧ sp + 166 ≤ 166) ∧ 0 ≤ dp ∧ dp + 166 ≤ 166) ∧ ∀ h2 : HI, (Fr [41] hi h2 ∧ (h2 = hput hi 41 (cpyI (hi 40) (hi 41) sp.toNat dp.toNat 166))) → Q AU h2) := by
  refine Ct.of (ws' := _) (by decide +kernel) rfl rfl ?_
  intro a hi Q hT
  obtain ⟨sp, dp, rfl, hpre, hQ⟩ := hT
  refine ⟨Nat.le_of_ble_eq_true rfl, ?_⟩
  show Z kX8_copies Q 0 [(0, AR 41), (1, AI sp), (2, AR 42), (3, AI dp)] [] hi
  refine z_iconst (pc := 0) (v := 0) dX8_copies_0 rfl ?_
  refine z_istore (pc := 1) (lv' := [(4, AI 0), (0, AR 41), (1, AI sp), (2, AR 42), (3, AI dp)]) dX8_copies_1 (by decide) rfl ?_
  have J3 : ∀ (N : Nat) (k : Int) (hk : HI), (0 ≤ k ∧ k ≤ 166) → (hk = hput hi 41 (cpyI (hi 40) (hi 41) sp.toNat dp.toNat k.toNat)) → (Fr [41] hi hk) → ((166 - k).toNat) < N → Z kX8_copies Q 3 [(4, AI k), (0, AR 41), (1, AI sp), (2, AR 42), (3, AI dp)] [] hk := by
    intro N
    induction N with
    | zero => intro k hk _ _ _ _; exact absurd (by assumption) (Nat.not_lt_zero _)
    | succ N ih3 =>
      intro k hk i0 i1 frlhk hm3
      refine z_iload (pc := 3) dX8_copies_3 0 rfl ?_
      refine z_sipush (pc := 5) (v := 166) dX8_copies_5 (by decide +kernel) ?_
      refine z_icmp_ge (pc := 8) (tgt := 29) dX8_copies_8 (by decide) ⟨by omega, by omega⟩ ⟨by decide, by decide⟩ (fun c1 => ?_) (fun c1 => ?_)
      · refine z_vret (pc := 29) rfl dX8_copies_29 ?_
        exact hQ hk ⟨frlhk, by rw [i1, show k = 166 by omega]; rfl⟩
      · refine z_aload_n (pc := 11) (x := 42) dX8_copies_11 rfl 3 rfl ?_
        refine z_iload_n (pc := 12) dX8_copies_12 rfl 4 rfl ?_
        refine z_iload (pc := 13) dX8_copies_13 0 rfl ?_
        refine z_iadd (pc := 15) dX8_copies_15 (fun v2 ev2 => ?_)
        refine z_aload_n (pc := 16) (x := 41) dX8_copies_16 rfl 1 rfl ?_
        refine z_iload_n (pc := 17) dX8_copies_17 rfl 2 rfl ?_
        refine z_iload (pc := 18) dX8_copies_18 0 rfl ?_
        refine z_iadd (pc := 20) dX8_copies_20 (fun v3 ev3 => ?_)
        refine z_iald (pc := 21) (pl := 40) (by decide) rfl (by decide) (by decide) (by omega) (by omega) dX8_copies_21 (fun v4 ev4 rv4 => ?_)
        rw [(frlhk 40 (by decide) : hk 40 = hi 40)] at ev4
        refine z_iast (pc := 22) (pl := 41) (by decide) rfl (by decide) (by omega) (by omega) ⟨by omega, by omega⟩ dX8_copies_22 (fun h5 eh5 => ?_)
        have frh5 : Fr [41] hi h5 := (Fr.put frlhk eh5 (by decide))
        refine z_iinc (pc := 23) (j := 0) (w := fun q => (4, AI q) :: [(0, AR 41), (1, AI sp), (2, AR 42), (3, AI dp)]) dX8_copies_23 rfl (by decide) (fun _ => rfl) (fun v6 ev6 => ?_)
        refine z_goto (pc := 26) (tgt := 3) dX8_copies_26 (by decide) ?_
        exact ih3 v6 h5 (by omega) (cpyI_step (by decide) i1 (by omega) (by omega) (by omega) (by omega) (by assumption) eh5) (frh5) (by omega)
  exact J3 _ 0 hi (by omega) (cpyI_0 rfl) ((Fr.rf)) (Nat.lt_succ_self _)

theorem ct_X8_copies_np : Ct kX8_copies yX8_copies (fun a hi Q => ∃ sp : Int, ∃ dp : Int, a = [AR 41, AI sp, AR 43, AI dp] ∧ ((0 ≤ sp ∧ sp + 166 ≤ 166) ∧ 0 ≤ dp ∧ dp + 166 ≤ 3320) ∧ ∀ h2 : HI, (Fr [42] hi h2 ∧ (h2 = hput hi 42 (cpyI (hi 40) (hi 42) sp.toNat dp.toNat 166))) → Q AU h2) := by
  refine Ct.of (ws' := _) (by decide +kernel) rfl rfl ?_
  intro a hi Q hT
  obtain ⟨sp, dp, rfl, hpre, hQ⟩ := hT
  refine ⟨Nat.le_of_ble_eq_true rfl, ?_⟩
  show Z kX8_copies Q 0 [(0, AR 41), (1, AI sp), (2, AR 43), (3, AI dp)] [] hi
  refine z_iconst (pc := 0) (v := 0) dX8_copies_0 rfl ?_
  refine z_istore (pc := 1) (lv' := [(4, AI 0), (0, AR 41), (1, AI sp), (2, AR 43), (3, AI dp)]) dX8_copies_1 (by decide) rfl ?_
  have J3 : ∀ (N : Nat) (k : Int) (hk : HI), (0 ≤ k ∧ k ≤ 166) → (hk = hput hi 42 (cpyI (hi 40) (hi 42) sp.toNat dp.toNat k.toNat)) → (Fr [42] hi hk) → ((166 - k).toNat) < N → Z kX8_copies Q 3 [(4, AI k), (0, AR 41), (1, AI sp), (2, AR 43), (3, AI dp)] [] hk := by
    intro N
    induction N with
    | zero => intro k hk _ _ _ _; exact absurd (by assumption) (Nat.not_lt_zero _)
    | succ N ih3 =>
      intro k hk i0 i1 frlhk hm3
      refine z_iload (pc := 3) dX8_copies_3 0 rfl ?_
      refine z_sipush (pc := 5) (v := 166) dX8_copies_5 (by decide +kernel) ?_
      refine z_icmp_ge (pc := 8) (tgt := 29) dX8_copies_8 (by decide) ⟨by omega, by omega⟩ ⟨by decide, by decide⟩ (fun c1 => ?_) (fun c1 => ?_)
      · refine z_vret (pc := 29) rfl dX8_copies_29 ?_
        exact hQ hk ⟨frlhk, by rw [i1, show k = 166 by omega]; rfl⟩
      · refine z_aload_n (pc := 11) (x := 43) dX8_copies_11 rfl 3 rfl ?_
        refine z_iload_n (pc := 12) dX8_copies_12 rfl 4 rfl ?_
        refine z_iload (pc := 13) dX8_copies_13 0 rfl ?_
        refine z_iadd (pc := 15) dX8_copies_15 (fun v2 ev2 => ?_)
        refine z_aload_n (pc := 16) (x := 41) dX8_copies_16 rfl 1 rfl ?_
        refine z_iload_n (pc := 17) dX8_copies_17 rfl 2 rfl ?_
        refine z_iload (pc := 18) dX8_copies_18 0 rfl ?_
        refine z_iadd (pc := 20) dX8_copies_20 (fun v3 ev3 => ?_)
        refine z_iald (pc := 21) (pl := 40) (by decide) rfl (by decide) (by decide) (by omega) (by omega) dX8_copies_21 (fun v4 ev4 rv4 => ?_)
        rw [(frlhk 40 (by decide) : hk 40 = hi 40)] at ev4
        refine z_iast (pc := 22) (pl := 42) (by decide) rfl (by decide) (by omega) (by omega) ⟨by omega, by omega⟩ dX8_copies_22 (fun h5 eh5 => ?_)
        have frh5 : Fr [42] hi h5 := (Fr.put frlhk eh5 (by decide))
        refine z_iinc (pc := 23) (j := 0) (w := fun q => (4, AI q) :: [(0, AR 41), (1, AI sp), (2, AR 43), (3, AI dp)]) dX8_copies_23 rfl (by decide) (fun _ => rfl) (fun v6 ev6 => ?_)
        refine z_goto (pc := 26) (tgt := 3) dX8_copies_26 (by decide) ?_
        exact ih3 v6 h5 (by omega) (cpyI_step (by decide) i1 (by omega) (by omega) (by omega) (by omega) (by assumption) eh5) (frh5) (by omega)
  exact J3 _ 0 hi (by omega) (cpyI_0 rfl) ((Fr.rf)) (Nat.lt_succ_self _)

theorem ct_X8_copies_tn : Ct kX8_copies yX8_copies (fun a hi Q => ∃ sp : Int, ∃ dp : Int, a = [AR 42, AI sp, AR 41, AI dp] ∧ ((0 ≤ sp ∧ sp + 166 ≤ 166) ∧ 0 ≤ dp ∧ dp + 166 ≤ 166) ∧ ∀ h2 : HI, (Fr [40] hi h2 ∧ (h2 = hput hi 40 (cpyI (hi 41) (hi 40) sp.toNat dp.toNat 166))) → Q AU h2) := by
  refine Ct.of (ws' := _) (by decide +kernel) rfl rfl ?_
  intro a hi Q hT
  obtain ⟨sp, dp, rfl, hpre, hQ⟩ := hT
  refine ⟨Nat.le_of_ble_eq_true rfl, ?_⟩
  show Z kX8_copies Q 0 [(0, AR 42), (1, AI sp), (2, AR 41), (3, AI dp)] [] hi
  refine z_iconst (pc := 0) (v := 0) dX8_copies_0 rfl ?_
  refine z_istore (pc := 1) (lv' := [(4, AI 0), (0, AR 42), (1, AI sp), (2, AR 41), (3, AI dp)]) dX8_copies_1 (by decide) rfl ?_
  have J3 : ∀ (N : Nat) (k : Int) (hk : HI), (0 ≤ k ∧ k ≤ 166) → (hk = hput hi 40 (cpyI (hi 41) (hi 40) sp.toNat dp.toNat k.toNat)) → (Fr [40] hi hk) → ((166 - k).toNat) < N → Z kX8_copies Q 3 [(4, AI k), (0, AR 42), (1, AI sp), (2, AR 41), (3, AI dp)] [] hk := by
    intro N
    induction N with
    | zero => intro k hk _ _ _ _; exact absurd (by assumption) (Nat.not_lt_zero _)
    | succ N ih3 =>
      intro k hk i0 i1 frlhk hm3
      refine z_iload (pc := 3) dX8_copies_3 0 rfl ?_
      refine z_sipush (pc := 5) (v := 166) dX8_copies_5 (by decide +kernel) ?_
      refine z_icmp_ge (pc := 8) (tgt := 29) dX8_copies_8 (by decide) ⟨by omega, by omega⟩ ⟨by decide, by decide⟩ (fun c1 => ?_) (fun c1 => ?_)
      · refine z_vret (pc := 29) rfl dX8_copies_29 ?_
        exact hQ hk ⟨frlhk, by rw [i1, show k = 166 by omega]; rfl⟩
      · refine z_aload_n (pc := 11) (x := 41) dX8_copies_11 rfl 3 rfl ?_
        refine z_iload_n (pc := 12) dX8_copies_12 rfl 4 rfl ?_
        refine z_iload (pc := 13) dX8_copies_13 0 rfl ?_
        refine z_iadd (pc := 15) dX8_copies_15 (fun v2 ev2 => ?_)
        refine z_aload_n (pc := 16) (x := 42) dX8_copies_16 rfl 1 rfl ?_
        refine z_iload_n (pc := 17) dX8_copies_17 rfl 2 rfl ?_
        refine z_iload (pc := 18) dX8_copies_18 0 rfl ?_
        refine z_iadd (pc := 20) dX8_copies_20 (fun v3 ev3 => ?_)
        refine z_iald (pc := 21) (pl := 41) (by decide) rfl (by decide) (by decide) (by omega) (by omega) dX8_copies_21 (fun v4 ev4 rv4 => ?_)
        rw [(frlhk 41 (by decide) : hk 41 = hi 41)] at ev4
        refine z_iast (pc := 22) (pl := 40) (by decide) rfl (by decide) (by omega) (by omega) ⟨by omega, by omega⟩ dX8_copies_22 (fun h5 eh5 => ?_)
        have frh5 : Fr [40] hi h5 := (Fr.put frlhk eh5 (by decide))
        refine z_iinc (pc := 23) (j := 0) (w := fun q => (4, AI q) :: [(0, AR 42), (1, AI sp), (2, AR 41), (3, AI dp)]) dX8_copies_23 rfl (by decide) (fun _ => rfl) (fun v6 ev6 => ?_)
        refine z_goto (pc := 26) (tgt := 3) dX8_copies_26 (by decide) ?_
        exact ih3 v6 h5 (by omega) (cpyI_step (by decide) i1 (by omega) (by omega) (by omega) (by omega) (by assumption) eh5) (frh5) (by omega)
  exact J3 _ 0 hi (by omega) (cpyI_0 rfl) ((Fr.rf)) (Nat.lt_succ_self _)

theorem ct_X8_copies_pn : Ct kX8_copies yX8_copies (fun a hi Q => ∃ sp : Int, ∃ dp : Int, a = [AR 43, AI sp, AR 41, AI dp] ∧ ((0 ≤ sp ∧ sp + 166 ≤ 3320) ∧ 0 ≤ dp ∧ dp + 166 ≤ 166) ∧ ∀ h2 : HI, (Fr [40] hi h2 ∧ (h2 = hput hi 40 (cpyI (hi 42) (hi 40) sp.toNat dp.toNat 166))) → Q AU h2) := by
  refine Ct.of (ws' := _) (by decide +kernel) rfl rfl ?_
  intro a hi Q hT
  obtain ⟨sp, dp, rfl, hpre, hQ⟩ := hT
  refine ⟨Nat.le_of_ble_eq_true rfl, ?_⟩
  show Z kX8_copies Q 0 [(0, AR 43), (1, AI sp), (2, AR 41), (3, AI dp)] [] hi
  refine z_iconst (pc := 0) (v := 0) dX8_copies_0 rfl ?_
  refine z_istore (pc := 1) (lv' := [(4, AI 0), (0, AR 43), (1, AI sp), (2, AR 41), (3, AI dp)]) dX8_copies_1 (by decide) rfl ?_
  have J3 : ∀ (N : Nat) (k : Int) (hk : HI), (0 ≤ k ∧ k ≤ 166) → (hk = hput hi 40 (cpyI (hi 42) (hi 40) sp.toNat dp.toNat k.toNat)) → (Fr [40] hi hk) → ((166 - k).toNat) < N → Z kX8_copies Q 3 [(4, AI k), (0, AR 43), (1, AI sp), (2, AR 41), (3, AI dp)] [] hk := by
    intro N
    induction N with
    | zero => intro k hk _ _ _ _; exact absurd (by assumption) (Nat.not_lt_zero _)
    | succ N ih3 =>
      intro k hk i0 i1 frlhk hm3
      refine z_iload (pc := 3) dX8_copies_3 0 rfl ?_
      refine z_sipush (pc := 5) (v := 166) dX8_copies_5 (by decide +kernel) ?_
      refine z_icmp_ge (pc := 8) (tgt := 29) dX8_copies_8 (by decide) ⟨by omega, by omega⟩ ⟨by decide, by decide⟩ (fun c1 => ?_) (fun c1 => ?_)
      · refine z_vret (pc := 29) rfl dX8_copies_29 ?_
        exact hQ hk ⟨frlhk, by rw [i1, show k = 166 by omega]; rfl⟩
      · refine z_aload_n (pc := 11) (x := 41) dX8_copies_11 rfl 3 rfl ?_
        refine z_iload_n (pc := 12) dX8_copies_12 rfl 4 rfl ?_
        refine z_iload (pc := 13) dX8_copies_13 0 rfl ?_
        refine z_iadd (pc := 15) dX8_copies_15 (fun v2 ev2 => ?_)
        refine z_aload_n (pc := 16) (x := 43) dX8_copies_16 rfl 1 rfl ?_
        refine z_iload_n (pc := 17) dX8_copies_17 rfl 2 rfl ?_
        refine z_iload (pc := 18) dX8_copies_18 0 rfl ?_
        refine z_iadd (pc := 20) dX8_copies_20 (fun v3 ev3 => ?_)
        refine z_iald (pc := 21) (pl := 42) (by decide) rfl (by decide) (by decide) (by omega) (by omega) dX8_copies_21 (fun v4 ev4 rv4 => ?_)
        rw [(frlhk 42 (by decide) : hk 42 = hi 42)] at ev4
        refine z_iast (pc := 22) (pl := 40) (by decide) rfl (by decide) (by omega) (by omega) ⟨by omega, by omega⟩ dX8_copies_22 (fun h5 eh5 => ?_)
        have frh5 : Fr [40] hi h5 := (Fr.put frlhk eh5 (by decide))
        refine z_iinc (pc := 23) (j := 0) (w := fun q => (4, AI q) :: [(0, AR 43), (1, AI sp), (2, AR 41), (3, AI dp)]) dX8_copies_23 rfl (by decide) (fun _ => rfl) (fun v6 ev6 => ?_)
        refine z_goto (pc := 26) (tgt := 3) dX8_copies_26 (by decide) ?_
        exact ih3 v6 h5 (by omega) (cpyI_step (by decide) i1 (by omega) (by omega) (by omega) (by omega) (by assumption) eh5) (frh5) (by omega)
  exact J3 _ 0 hi (by omega) (cpyI_0 rfl) ((Fr.rf)) (Nat.lt_succ_self _)

theorem ct_X8_copies_kn : Ct kX8_copies yX8_copies (fun a hi Q => ∃ sp : Int, ∃ dp : Int, a = [AR 44, AI sp, AR 41, AI dp] ∧ ((0 ≤ sp ∧ sp + 166 ≤ 332) ∧ 0 ≤ dp ∧ dp + 166 ≤ 166) ∧ ∀ h2 : HI, (Fr [40] hi h2 ∧ (h2 = hput hi 40 (cpyI (hi 43) (hi 40) sp.toNat dp.toNat 166))) → Q AU h2) := by
  refine Ct.of (ws' := _) (by decide +kernel) rfl rfl ?_
  intro a hi Q hT
  obtain ⟨sp, dp, rfl, hpre, hQ⟩ := hT
  refine ⟨Nat.le_of_ble_eq_true rfl, ?_⟩
  show Z kX8_copies Q 0 [(0, AR 44), (1, AI sp), (2, AR 41), (3, AI dp)] [] hi
  refine z_iconst (pc := 0) (v := 0) dX8_copies_0 rfl ?_
  refine z_istore (pc := 1) (lv' := [(4, AI 0), (0, AR 44), (1, AI sp), (2, AR 41), (3, AI dp)]) dX8_copies_1 (by decide) rfl ?_
  have J3 : ∀ (N : Nat) (k : Int) (hk : HI), (0 ≤ k ∧ k ≤ 166) → (hk = hput hi 40 (cpyI (hi 43) (hi 40) sp.toNat dp.toNat k.toNat)) → (Fr [40] hi hk) → ((166 - k).toNat) < N → Z kX8_copies Q 3 [(4, AI k), (0, AR 44), (1, AI sp), (2, AR 41), (3, AI dp)] [] hk := by
    intro N
    induction N with
    | zero => intro k hk _ _ _ _; exact absurd (by assumption) (Nat.not_lt_zero _)
    | succ N ih3 =>
      intro k hk i0 i1 frlhk hm3
      refine z_iload (pc := 3) dX8_copies_3 0 rfl ?_
      refine z_sipush (pc := 5) (v := 166) dX8_copies_5 (by decide +kernel) ?_
      refine z_icmp_ge (pc := 8) (tgt := 29) dX8_copies_8 (by decide) ⟨by omega, by omega⟩ ⟨by decide, by decide⟩ (fun c1 => ?_) (fun c1 => ?_)
      · refine z_vret (pc := 29) rfl dX8_copies_29 ?_
        exact hQ hk ⟨frlhk, by rw [i1, show k = 166 by omega]; rfl⟩
      · refine z_aload_n (pc := 11) (x := 41) dX8_copies_11 rfl 3 rfl ?_
        refine z_iload_n (pc := 12) dX8_copies_12 rfl 4 rfl ?_
        refine z_iload (pc := 13) dX8_copies_13 0 rfl ?_
        refine z_iadd (pc := 15) dX8_copies_15 (fun v2 ev2 => ?_)
        refine z_aload_n (pc := 16) (x := 44) dX8_copies_16 rfl 1 rfl ?_
        refine z_iload_n (pc := 17) dX8_copies_17 rfl 2 rfl ?_
        refine z_iload (pc := 18) dX8_copies_18 0 rfl ?_
        refine z_iadd (pc := 20) dX8_copies_20 (fun v3 ev3 => ?_)
        refine z_iald (pc := 21) (pl := 43) (by decide) rfl (by decide) (by decide) (by omega) (by omega) dX8_copies_21 (fun v4 ev4 rv4 => ?_)
        rw [(frlhk 43 (by decide) : hk 43 = hi 43)] at ev4
        refine z_iast (pc := 22) (pl := 40) (by decide) rfl (by decide) (by omega) (by omega) ⟨by omega, by omega⟩ dX8_copies_22 (fun h5 eh5 => ?_)
        have frh5 : Fr [40] hi h5 := (Fr.put frlhk eh5 (by decide))
        refine z_iinc (pc := 23) (j := 0) (w := fun q => (4, AI q) :: [(0, AR 44), (1, AI sp), (2, AR 41), (3, AI dp)]) dX8_copies_23 rfl (by decide) (fun _ => rfl) (fun v6 ev6 => ?_)
        refine z_goto (pc := 26) (tgt := 3) dX8_copies_26 (by decide) ?_
        exact ih3 v6 h5 (by omega) (cpyI_step (by decide) i1 (by omega) (by omega) (by omega) (by omega) (by assumption) eh5) (frh5) (by omega)
  exact J3 _ 0 hi (by omega) (cpyI_0 rfl) ((Fr.rf)) (Nat.lt_succ_self _)

theorem ct_X8_copies_nk : Ct kX8_copies yX8_copies (fun a hi Q => ∃ sp : Int, ∃ dp : Int, a = [AR 41, AI sp, AR 44, AI dp] ∧ ((0 ≤ sp ∧ sp + 166 ≤ 166) ∧ 0 ≤ dp ∧ dp + 166 ≤ 332) ∧ ∀ h2 : HI, (Fr [43] hi h2 ∧ (h2 = hput hi 43 (cpyI (hi 40) (hi 43) sp.toNat dp.toNat 166))) → Q AU h2) := by
  refine Ct.of (ws' := _) (by decide +kernel) rfl rfl ?_
  intro a hi Q hT
  obtain ⟨sp, dp, rfl, hpre, hQ⟩ := hT
  refine ⟨Nat.le_of_ble_eq_true rfl, ?_⟩
  show Z kX8_copies Q 0 [(0, AR 41), (1, AI sp), (2, AR 44), (3, AI dp)] [] hi
  refine z_iconst (pc := 0) (v := 0) dX8_copies_0 rfl ?_
  refine z_istore (pc := 1) (lv' := [(4, AI 0), (0, AR 41), (1, AI sp), (2, AR 44), (3, AI dp)]) dX8_copies_1 (by decide) rfl ?_
  have J3 : ∀ (N : Nat) (k : Int) (hk : HI), (0 ≤ k ∧ k ≤ 166) → (hk = hput hi 43 (cpyI (hi 40) (hi 43) sp.toNat dp.toNat k.toNat)) → (Fr [43] hi hk) → ((166 - k).toNat) < N → Z kX8_copies Q 3 [(4, AI k), (0, AR 41), (1, AI sp), (2, AR 44), (3, AI dp)] [] hk := by
    intro N
    induction N with
    | zero => intro k hk _ _ _ _; exact absurd (by assumption) (Nat.not_lt_zero _)
    | succ N ih3 =>
      intro k hk i0 i1 frlhk hm3
      refine z_iload (pc := 3) dX8_copies_3 0 rfl ?_
      refine z_sipush (pc := 5) (v := 166) dX8_copies_5 (by decide +kernel) ?_
      refine z_icmp_ge (pc := 8) (tgt := 29) dX8_copies_8 (by decide) ⟨by omega, by omega⟩ ⟨by decide, by decide⟩ (fun c1 => ?_) (fun c1 => ?_)
      · refine z_vret (pc := 29) rfl dX8_copies_29 ?_
        exact hQ hk ⟨frlhk, by rw [i1, show k = 166 by omega]; rfl⟩
      · refine z_aload_n (pc := 11) (x := 44) dX8_copies_11 rfl 3 rfl ?_
        refine z_iload_n (pc := 12) dX8_copies_12 rfl 4 rfl ?_
        refine z_iload (pc := 13) dX8_copies_13 0 rfl ?_
        refine z_iadd (pc := 15) dX8_copies_15 (fun v2 ev2 => ?_)
        refine z_aload_n (pc := 16) (x := 41) dX8_copies_16 rfl 1 rfl ?_
        refine z_iload_n (pc := 17) dX8_copies_17 rfl 2 rfl ?_
        refine z_iload (pc := 18) dX8_copies_18 0 rfl ?_
        refine z_iadd (pc := 20) dX8_copies_20 (fun v3 ev3 => ?_)
        refine z_iald (pc := 21) (pl := 40) (by decide) rfl (by decide) (by decide) (by omega) (by omega) dX8_copies_21 (fun v4 ev4 rv4 => ?_)
        rw [(frlhk 40 (by decide) : hk 40 = hi 40)] at ev4
        refine z_iast (pc := 22) (pl := 43) (by decide) rfl (by decide) (by omega) (by omega) ⟨by omega, by omega⟩ dX8_copies_22 (fun h5 eh5 => ?_)
        have frh5 : Fr [43] hi h5 := (Fr.put frlhk eh5 (by decide))
        refine z_iinc (pc := 23) (j := 0) (w := fun q => (4, AI q) :: [(0, AR 41), (1, AI sp), (2, AR 44), (3, AI dp)]) dX8_copies_23 rfl (by decide) (fun _ => rfl) (fun v6 ev6 => ?_)
        refine z_goto (pc := 26) (tgt := 3) dX8_copies_26 (by decide) ?_
        exact ih3 v6 h5 (by omega) (cpyI_step (by decide) i1 (by omega) (by omega) (by omega) (by omega) (by assumption) eh5) (frh5) (by omega)
  exact J3 _ 0 hi (by omega) (cpyI_0 rfl) ((Fr.rf)) (Nat.lt_succ_self _)

abbrev kX8_of : Kd := (cX8_of, .code yX8_of cX8_of 3 (some .int) :: wsL_law0, rmL 1, RX8, (some .int), 3)
theorem ct_X8_of_40 : Ct kX8_of yX8_of (fun a hi Q => ∃ k : Int, ∃ w : Int, a = [AR 41, AI k, AI w] ∧ ((0 ≤ k ∧ k ≤ 40) ∧ 0 ≤ w ∧ w ≤ 3) ∧ ∀ v : Int, (v = eO (hi 40) k w ∧ inR v) → Q (AI v) hi) := by
  refine Ct.of (ws' := _) (by decide +kernel) rfl rfl ?_
  intro a hi Q hT
  obtain ⟨k, w, rfl, hpre, hQ⟩ := hT
  refine ⟨Nat.le_of_ble_eq_true rfl, ?_⟩
  show Z kX8_of Q 0 [(0, AR 41), (1, AI k), (2, AI w)] [] hi
  refine z_aload_n (pc := 0) (x := 41) dX8_of_0 rfl 0 rfl ?_
  refine z_iconst (pc := 1) (v := 2) dX8_of_1 rfl ?_
  refine z_iconst (pc := 2) (v := 4) dX8_of_2 rfl ?_
  refine z_iload_n (pc := 3) dX8_of_3 rfl 1 rfl ?_
  refine z_imul (pc := 4) dX8_of_4 (fun v1 ev1 => ?_)
  refine z_iadd (pc := 5) dX8_of_5 (fun v2 ev2 => ?_)
  refine z_iload_n (pc := 6) dX8_of_6 rfl 2 rfl ?_
  refine z_iadd (pc := 7) dX8_of_7 (fun v3 ev3 => ?_)
  refine z_iald (pc := 8) (pl := 40) (by decide) rfl (by decide) (by decide) (by omega) (by omega) dX8_of_8 (fun v4 ev4 rv4 => ?_)
  refine z_iret (pc := 9) rfl dX8_of_9 ?_
  exact hQ v4 (⟨by rw [ev4]; exact eO_i (by omega) (by omega) (by omega), rv4⟩)

theorem ct_X8_of_41 : Ct kX8_of yX8_of (fun a hi Q => ∃ k : Int, ∃ w : Int, a = [AR 42, AI k, AI w] ∧ ((0 ≤ k ∧ k ≤ 40) ∧ 0 ≤ w ∧ w ≤ 3) ∧ ∀ v : Int, (v = eO (hi 41) k w ∧ inR v) → Q (AI v) hi) := by
  refine Ct.of (ws' := _) (by decide +kernel) rfl rfl ?_
  intro a hi Q hT
  obtain ⟨k, w, rfl, hpre, hQ⟩ := hT
  refine ⟨Nat.le_of_ble_eq_true rfl, ?_⟩
  show Z kX8_of Q 0 [(0, AR 42), (1, AI k), (2, AI w)] [] hi
  refine z_aload_n (pc := 0) (x := 42) dX8_of_0 rfl 0 rfl ?_
  refine z_iconst (pc := 1) (v := 2) dX8_of_1 rfl ?_
  refine z_iconst (pc := 2) (v := 4) dX8_of_2 rfl ?_
  refine z_iload_n (pc := 3) dX8_of_3 rfl 1 rfl ?_
  refine z_imul (pc := 4) dX8_of_4 (fun v1 ev1 => ?_)
  refine z_iadd (pc := 5) dX8_of_5 (fun v2 ev2 => ?_)
  refine z_iload_n (pc := 6) dX8_of_6 rfl 2 rfl ?_
  refine z_iadd (pc := 7) dX8_of_7 (fun v3 ev3 => ?_)
  refine z_iald (pc := 8) (pl := 41) (by decide) rfl (by decide) (by decide) (by omega) (by omega) dX8_of_8 (fun v4 ev4 rv4 => ?_)
  refine z_iret (pc := 9) rfl dX8_of_9 ?_
  exact hQ v4 (⟨by rw [ev4]; exact eO_i (by omega) (by omega) (by omega), rv4⟩)

abbrev kX8_its : Kd := (cX8_its, .code yX8_its cX8_its 3 (some .int) :: wsL_law0, rmL 2, RX8, (some .int), 3)
theorem ct_X8_its : Ct kX8_its yX8_its (fun a hi Q => ∃ k : Int, ∃ w : Int, a = [AR 40, AI k, AI w] ∧ ((0 ≤ k ∧ k ≤ 40) ∧ 0 ≤ w ∧ w ≤ 3) ∧ ∀ v : Int, (v = eO (hi 40) k w ∧ inR v) → Q (AI v) hi) := by
  refine Ct.of (ws' := _) (by decide +kernel) rfl rfl ?_
  intro a hi Q hT
  obtain ⟨k, w, rfl, hpre, hQ⟩ := hT
  refine ⟨Nat.le_of_ble_eq_true rfl, ?_⟩
  show Z kX8_its Q 0 [(0, AR 40), (1, AI k), (2, AI w)] [] hi
  refine z_aload_n (pc := 0) (x := 40) dX8_its_0 rfl 0 rfl ?_
  refine z_getR (pc := 1) (pl := 39) (f := 1) (ci := 7) (C := RX8) (T := TX8) (N := 33) hu_X8 (by decide) rfl rfl (by decide) rfl (List.mem_cons_of_mem _ (iw5 _ (List.mem_of_getElem? (i := 5) rfl))) rfl dX8_its_1 ?_
  refine z_iload_n (pc := 4) dX8_its_4 rfl 1 rfl ?_
  refine z_iload_n (pc := 5) dX8_its_5 rfl 2 rfl ?_
  refine z_callS (pc := 6) (kc := kX8_of) (n := 3) (As := [AR 41, AI k, AI w]) (stk := []) ct_X8_of_40 (gdS rfl rfl (iw10 _ (List.mem_of_getElem? (i := 10) rfl)) (iw10 _ (List.mem_of_getElem? (i := 11) rfl)) (iw1 _ (List.mem_of_getElem? (i := 5) rfl)) (iw10 _ (List.mem_of_getElem? (i := 12) rfl))) rfl ⟨rfl, rfl⟩ (by decide +kernel) ⟨by decide, by decide⟩ dX8_its_6 rfl rfl (Nat.le_of_ble_eq_true rfl) ?_
  refine ⟨_, _, rfl, by omega, fun v1 ev1 => ?_⟩
  refine z_iret (pc := 9) rfl dX8_its_9 ?_
  exact hQ v1 (by omega)

abbrev kX8_lives : Kd := (cX8_lives, .code yX8_lives cX8_lives 3 (some .boolean) :: wsL_law0, rmL 2, RX8, (some .boolean), 3)
theorem ct_X8_lives_40 : Ct kX8_lives yX8_lives (fun a hi Q => ∃ k : Int, ∃ h : Int, a = [AR 41, AI k, AI h] ∧ ((0 ≤ k ∧ k ≤ 40) ∧ inR h) ∧ ∀ v : Int, ((v = 1 ∧ al (hi 40) k h) ∨ (v = 0 ∧ ¬ al (hi 40) k h)) → Q (AI v) hi) := by
  refine Ct.of (ws' := _) (by decide +kernel) rfl rfl ?_
  intro a hi Q hT
  obtain ⟨k, h, rfl, hpre, hQ⟩ := hT
  refine ⟨Nat.le_of_ble_eq_true rfl, ?_⟩
  show Z kX8_lives Q 0 [(0, AR 41), (1, AI k), (2, AI h)] [] hi
  refine z_aload_n (pc := 0) (x := 41) dX8_lives_0 rfl 0 rfl ?_
  refine z_iload_n (pc := 1) dX8_lives_1 rfl 1 rfl ?_
  refine z_iconst (pc := 2) (v := 1) dX8_lives_2 rfl ?_
  refine z_callS (pc := 3) (kc := kX8_of) (n := 3) (As := [AR 41, AI k, AI 1]) (stk := []) ct_X8_of_40 (gdS rfl rfl (iw10 _ (List.mem_of_getElem? (i := 10) rfl)) (iw10 _ (List.mem_of_getElem? (i := 11) rfl)) (iw1 _ (List.mem_of_getElem? (i := 5) rfl)) (iw10 _ (List.mem_of_getElem? (i := 12) rfl))) rfl ⟨rfl, rfl⟩ (by decide +kernel) ⟨by decide, by decide⟩ dX8_lives_3 rfl rfl (Nat.le_of_ble_eq_true rfl) ?_
  refine ⟨_, _, rfl, by omega, fun v1 ev1 => ?_⟩
  replace ev1 : v1 = bO (hi 40) k ∧ inR v1 := ev1
  refine z_iload_n (pc := 6) dX8_lives_6 rfl 2 rfl ?_
  refine z_icmp_gt (pc := 7) (tgt := 24) dX8_lives_7 (by decide) ⟨by omega, by omega⟩ ⟨by omega, by omega⟩ (fun c2 => ?_) (fun c2 => ?_)
  · refine z_iconst (pc := 24) (v := 0) dX8_lives_24 rfl ?_
    refine z_zret (pc := 25) rfl (by decide) dX8_lives_25 ?_
    exact hQ 0 (by omega)
  · refine z_iload_n (pc := 10) dX8_lives_10 rfl 2 rfl ?_
    refine z_aload_n (pc := 11) (x := 41) dX8_lives_11 rfl 0 rfl ?_
    refine z_iload_n (pc := 12) dX8_lives_12 rfl 1 rfl ?_
    refine z_iconst (pc := 13) (v := 2) dX8_lives_13 rfl ?_
    refine z_callS (pc := 14) (kc := kX8_of) (n := 3) (As := [AR 41, AI k, AI 2]) (stk := [AI h]) ct_X8_of_40 (gdS rfl rfl (iw10 _ (List.mem_of_getElem? (i := 10) rfl)) (iw10 _ (List.mem_of_getElem? (i := 11) rfl)) (iw1 _ (List.mem_of_getElem? (i := 5) rfl)) (iw10 _ (List.mem_of_getElem? (i := 12) rfl))) rfl ⟨rfl, rfl⟩ (by decide +kernel) ⟨by decide, by decide⟩ dX8_lives_14 rfl rfl (Nat.le_of_ble_eq_true rfl) ?_
    refine ⟨_, _, rfl, by omega, fun v3 ev3 => ?_⟩
    replace ev3 : v3 = dO (hi 40) k ∧ inR v3 := ev3
    refine z_icmp_ge (pc := 17) (tgt := 24) dX8_lives_17 (by decide) ⟨by omega, by omega⟩ ⟨by omega, by omega⟩ (fun c4 => ?_) (fun c4 => ?_)
    · refine z_iconst (pc := 24) (v := 0) dX8_lives_24 rfl ?_
      refine z_zret (pc := 25) rfl (by decide) dX8_lives_25 ?_
      exact hQ 0 (by omega)
    · refine z_iconst (pc := 20) (v := 1) dX8_lives_20 rfl ?_
      refine z_goto (pc := 21) (tgt := 25) dX8_lives_21 (by decide) ?_
      refine z_zret (pc := 25) rfl (by decide) dX8_lives_25 ?_
      exact hQ 1 (by omega)

theorem ct_X8_lives_41 : Ct kX8_lives yX8_lives (fun a hi Q => ∃ k : Int, ∃ h : Int, a = [AR 42, AI k, AI h] ∧ ((0 ≤ k ∧ k ≤ 40) ∧ inR h) ∧ ∀ v : Int, ((v = 1 ∧ al (hi 41) k h) ∨ (v = 0 ∧ ¬ al (hi 41) k h)) → Q (AI v) hi) := by
  refine Ct.of (ws' := _) (by decide +kernel) rfl rfl ?_
  intro a hi Q hT
  obtain ⟨k, h, rfl, hpre, hQ⟩ := hT
  refine ⟨Nat.le_of_ble_eq_true rfl, ?_⟩
  show Z kX8_lives Q 0 [(0, AR 42), (1, AI k), (2, AI h)] [] hi
  refine z_aload_n (pc := 0) (x := 42) dX8_lives_0 rfl 0 rfl ?_
  refine z_iload_n (pc := 1) dX8_lives_1 rfl 1 rfl ?_
  refine z_iconst (pc := 2) (v := 1) dX8_lives_2 rfl ?_
  refine z_callS (pc := 3) (kc := kX8_of) (n := 3) (As := [AR 42, AI k, AI 1]) (stk := []) ct_X8_of_41 (gdS rfl rfl (iw10 _ (List.mem_of_getElem? (i := 10) rfl)) (iw10 _ (List.mem_of_getElem? (i := 11) rfl)) (iw1 _ (List.mem_of_getElem? (i := 5) rfl)) (iw10 _ (List.mem_of_getElem? (i := 12) rfl))) rfl ⟨rfl, rfl⟩ (by decide +kernel) ⟨by decide, by decide⟩ dX8_lives_3 rfl rfl (Nat.le_of_ble_eq_true rfl) ?_
  refine ⟨_, _, rfl, by omega, fun v1 ev1 => ?_⟩
  replace ev1 : v1 = bO (hi 41) k ∧ inR v1 := ev1
  refine z_iload_n (pc := 6) dX8_lives_6 rfl 2 rfl ?_
  refine z_icmp_gt (pc := 7) (tgt := 24) dX8_lives_7 (by decide) ⟨by omega, by omega⟩ ⟨by omega, by omega⟩ (fun c2 => ?_) (fun c2 => ?_)
  · refine z_iconst (pc := 24) (v := 0) dX8_lives_24 rfl ?_
    refine z_zret (pc := 25) rfl (by decide) dX8_lives_25 ?_
    exact hQ 0 (by omega)
  · refine z_iload_n (pc := 10) dX8_lives_10 rfl 2 rfl ?_
    refine z_aload_n (pc := 11) (x := 42) dX8_lives_11 rfl 0 rfl ?_
    refine z_iload_n (pc := 12) dX8_lives_12 rfl 1 rfl ?_
    refine z_iconst (pc := 13) (v := 2) dX8_lives_13 rfl ?_
    refine z_callS (pc := 14) (kc := kX8_of) (n := 3) (As := [AR 42, AI k, AI 2]) (stk := [AI h]) ct_X8_of_41 (gdS rfl rfl (iw10 _ (List.mem_of_getElem? (i := 10) rfl)) (iw10 _ (List.mem_of_getElem? (i := 11) rfl)) (iw1 _ (List.mem_of_getElem? (i := 5) rfl)) (iw10 _ (List.mem_of_getElem? (i := 12) rfl))) rfl ⟨rfl, rfl⟩ (by decide +kernel) ⟨by decide, by decide⟩ dX8_lives_14 rfl rfl (Nat.le_of_ble_eq_true rfl) ?_
    refine ⟨_, _, rfl, by omega, fun v3 ev3 => ?_⟩
    replace ev3 : v3 = dO (hi 41) k ∧ inR v3 := ev3
    refine z_icmp_ge (pc := 17) (tgt := 24) dX8_lives_17 (by decide) ⟨by omega, by omega⟩ ⟨by omega, by omega⟩ (fun c4 => ?_) (fun c4 => ?_)
    · refine z_iconst (pc := 24) (v := 0) dX8_lives_24 rfl ?_
      refine z_zret (pc := 25) rfl (by decide) dX8_lives_25 ?_
      exact hQ 0 (by omega)
    · refine z_iconst (pc := 20) (v := 1) dX8_lives_20 rfl ?_
      refine z_goto (pc := 21) (tgt := 25) dX8_lives_21 (by decide) ?_
      refine z_zret (pc := 25) rfl (by decide) dX8_lives_25 ?_
      exact hQ 1 (by omega)

abbrev kX8_lifeAt : Kd := (cX8_lifeAt, .code yX8_lifeAt cX8_lifeAt 4 (some .int) :: wsL_law0, rmL 3, RX8, (some .int), 4)
theorem ct_X8_lifeAt_40 : Ct kX8_lifeAt yX8_lifeAt (fun a hi Q => ∃ x : Int, ∃ h : Int, a = [AR 41, AI x, AI h] ∧ ((0 ≤ hi 40 0 ∧ hi 40 0 ≤ 41) ∧ inR x ∧ inR h) ∧ ∀ v : Int, (Fst (fun z => nO (hi 40) z = x ∧ al (hi 40) z h) (hi 40 0) v) → Q (AI v) hi) := by
  refine Ct.of (ws' := _) (by decide +kernel) rfl rfl ?_
  intro a hi Q hT
  obtain ⟨x, h, rfl, hpre, hQ⟩ := hT
  refine ⟨Nat.le_of_ble_eq_true rfl, ?_⟩
  show Z kX8_lifeAt Q 0 [(0, AR 41), (1, AI x), (2, AI h)] [] hi
  refine z_iconst (pc := 0) (v := 0) dX8_lifeAt_0 rfl ?_
  refine z_istore_n (pc := 1) (lv' := [(3, AI 0), (0, AR 41), (1, AI x), (2, AI h)]) dX8_lifeAt_1 rfl (by decide) rfl ?_
  have J2 : ∀ (N : Nat) (k : Int), (0 ≤ k ∧ k ≤ hi 40 0) → (∀ z : Int, 0 ≤ z → z < k → ¬ (nO (hi 40) z = x ∧ al (hi 40) z h)) → ((hi 40 0 - k).toNat) < N → Z kX8_lifeAt Q 2 [(3, AI k), (0, AR 41), (1, AI x), (2, AI h)] [] hi := by
    intro N
    induction N with
    | zero => intro k _ _ _; exact absurd (by assumption) (Nat.not_lt_zero _)
    | succ N ih2 =>
      intro k i0 i1 hm2
      refine z_iload_n (pc := 2) dX8_lifeAt_2 rfl 0 rfl ?_
      refine z_aload_n (pc := 3) (x := 41) dX8_lifeAt_3 rfl 1 rfl ?_
      refine z_iconst (pc := 4) (v := 0) dX8_lifeAt_4 rfl ?_
      refine z_iald (pc := 5) (pl := 40) (by decide) rfl (by decide) (by decide) (by decide) (by decide) dX8_lifeAt_5 (fun v1 ev1 rv1 => ?_)
      replace ev1 : v1 = hi 40 0 := ev1
      refine z_icmp_ge (pc := 6) (tgt := 36) dX8_lifeAt_6 (by decide) ⟨by omega, by omega⟩ ⟨by omega, by omega⟩ (fun c2 => ?_) (fun c2 => ?_)
      · refine z_iconst (pc := 36) (v := (-1)) dX8_lifeAt_36 rfl ?_
        refine z_iret (pc := 37) rfl dX8_lifeAt_37 ?_
        exact hQ (-1) (by first | exact Or.inr ⟨rfl, fun z h0 h1 => i1 z h0 (by omega)⟩ | exact Or.inl ⟨by omega, by omega, by omega, i1⟩)
      · refine z_aload_n (pc := 9) (x := 41) dX8_lifeAt_9 rfl 1 rfl ?_
        refine z_iload_n (pc := 10) dX8_lifeAt_10 rfl 0 rfl ?_
        refine z_iconst (pc := 11) (v := 0) dX8_lifeAt_11 rfl ?_
        refine z_callS (pc := 12) (kc := kX8_of) (n := 3) (As := [AR 41, AI k, AI 0]) (stk := []) ct_X8_of_40 (gdS rfl rfl (iw10 _ (List.mem_of_getElem? (i := 10) rfl)) (iw10 _ (List.mem_of_getElem? (i := 11) rfl)) (iw1 _ (List.mem_of_getElem? (i := 5) rfl)) (iw10 _ (List.mem_of_getElem? (i := 12) rfl))) rfl ⟨rfl, rfl⟩ (by decide +kernel) ⟨by decide, by decide⟩ dX8_lifeAt_12 rfl rfl (Nat.le_of_ble_eq_true rfl) ?_
        refine ⟨_, _, rfl, by omega, fun v3 ev3 => ?_⟩
        replace ev3 : v3 = nO (hi 40) k ∧ inR v3 := ev3
        refine z_iload_n (pc := 15) dX8_lifeAt_15 rfl 2 rfl ?_
        refine z_icmp_ne (pc := 16) (tgt := 30) dX8_lifeAt_16 (by decide) ⟨by omega, by omega⟩ ⟨by omega, by omega⟩ (fun c4 => ?_) (fun c4 => ?_)
        · refine z_iinc (pc := 30) (j := 0) (w := fun q => (3, AI q) :: [(0, AR 41), (1, AI x), (2, AI h)]) dX8_lifeAt_30 rfl (by decide) (fun _ => rfl) (fun v5 ev5 => ?_)
          refine z_goto (pc := 33) (tgt := 2) dX8_lifeAt_33 (by decide) ?_
          exact ih2 v5 (by omega) (no_step i1 (by omega) (by omega)) (by omega)
        · refine z_aload_n (pc := 19) (x := 41) dX8_lifeAt_19 rfl 1 rfl ?_
          refine z_iload_n (pc := 20) dX8_lifeAt_20 rfl 0 rfl ?_
          refine z_iload_n (pc := 21) dX8_lifeAt_21 rfl 3 rfl ?_
          refine z_callS (pc := 22) (kc := kX8_lives) (n := 3) (As := [AR 41, AI k, AI h]) (stk := []) ct_X8_lives_40 (gdS rfl rfl (iw10 _ (List.mem_of_getElem? (i := 13) rfl)) (iw10 _ (List.mem_of_getElem? (i := 14) rfl)) (iw1 _ (List.mem_of_getElem? (i := 5) rfl)) (iw10 _ (List.mem_of_getElem? (i := 15) rfl))) rfl ⟨rfl, rfl⟩ (by decide +kernel) ⟨by decide, by decide⟩ dX8_lifeAt_22 rfl rfl (Nat.le_of_ble_eq_true rfl) ?_
          refine ⟨_, _, rfl, by omega, fun v6 ev6 => ?_⟩
          refine z_if_eq (pc := 25) (tgt := 30) dX8_lifeAt_25 (by decide) ⟨by omega, by omega⟩ (fun c7 => ?_) (fun c7 => ?_)
          · refine z_iinc (pc := 30) (j := 0) (w := fun q => (3, AI q) :: [(0, AR 41), (1, AI x), (2, AI h)]) dX8_lifeAt_30 rfl (by decide) (fun _ => rfl) (fun v8 ev8 => ?_)
            refine z_goto (pc := 33) (tgt := 2) dX8_lifeAt_33 (by decide) ?_
            exact ih2 v8 (by omega) (no_step i1 (by omega) (by omega)) (by omega)
          · refine z_iload_n (pc := 28) dX8_lifeAt_28 rfl 0 rfl ?_
            refine z_iret (pc := 29) rfl dX8_lifeAt_29 ?_
            exact hQ k (by first | exact Or.inr ⟨rfl, fun z h0 h1 => i1 z h0 (by omega)⟩ | exact Or.inl ⟨by omega, by omega, by omega, i1⟩)
  exact J2 _ 0 (by omega) (no_0 rfl) (Nat.lt_succ_self _)

theorem ct_X8_lifeAt_41 : Ct kX8_lifeAt yX8_lifeAt (fun a hi Q => ∃ x : Int, ∃ h : Int, a = [AR 42, AI x, AI h] ∧ ((0 ≤ hi 41 0 ∧ hi 41 0 ≤ 41) ∧ inR x ∧ inR h) ∧ ∀ v : Int, (Fst (fun z => nO (hi 41) z = x ∧ al (hi 41) z h) (hi 41 0) v) → Q (AI v) hi) := by
  refine Ct.of (ws' := _) (by decide +kernel) rfl rfl ?_
  intro a hi Q hT
  obtain ⟨x, h, rfl, hpre, hQ⟩ := hT
  refine ⟨Nat.le_of_ble_eq_true rfl, ?_⟩
  show Z kX8_lifeAt Q 0 [(0, AR 42), (1, AI x), (2, AI h)] [] hi
  refine z_iconst (pc := 0) (v := 0) dX8_lifeAt_0 rfl ?_
  refine z_istore_n (pc := 1) (lv' := [(3, AI 0), (0, AR 42), (1, AI x), (2, AI h)]) dX8_lifeAt_1 rfl (by decide) rfl ?_
  have J2 : ∀ (N : Nat) (k : Int), (0 ≤ k ∧ k ≤ hi 41 0) → (∀ z : Int, 0 ≤ z → z < k → ¬ (nO (hi 41) z = x ∧ al (hi 41) z h)) → ((hi 41 0 - k).toNat) < N → Z kX8_lifeAt Q 2 [(3, AI k), (0, AR 42), (1, AI x), (2, AI h)] [] hi := by
    intro N
    induction N with
    | zero => intro k _ _ _; exact absurd (by assumption) (Nat.not_lt_zero _)
    | succ N ih2 =>
      intro k i0 i1 hm2
      refine z_iload_n (pc := 2) dX8_lifeAt_2 rfl 0 rfl ?_
      refine z_aload_n (pc := 3) (x := 42) dX8_lifeAt_3 rfl 1 rfl ?_
      refine z_iconst (pc := 4) (v := 0) dX8_lifeAt_4 rfl ?_
      refine z_iald (pc := 5) (pl := 41) (by decide) rfl (by decide) (by decide) (by decide) (by decide) dX8_lifeAt_5 (fun v1 ev1 rv1 => ?_)
      replace ev1 : v1 = hi 41 0 := ev1
      refine z_icmp_ge (pc := 6) (tgt := 36) dX8_lifeAt_6 (by decide) ⟨by omega, by omega⟩ ⟨by omega, by omega⟩ (fun c2 => ?_) (fun c2 => ?_)
      · refine z_iconst (pc := 36) (v := (-1)) dX8_lifeAt_36 rfl ?_
        refine z_iret (pc := 37) rfl dX8_lifeAt_37 ?_
        exact hQ (-1) (by first | exact Or.inr ⟨rfl, fun z h0 h1 => i1 z h0 (by omega)⟩ | exact Or.inl ⟨by omega, by omega, by omega, i1⟩)
      · refine z_aload_n (pc := 9) (x := 42) dX8_lifeAt_9 rfl 1 rfl ?_
        refine z_iload_n (pc := 10) dX8_lifeAt_10 rfl 0 rfl ?_
        refine z_iconst (pc := 11) (v := 0) dX8_lifeAt_11 rfl ?_
        refine z_callS (pc := 12) (kc := kX8_of) (n := 3) (As := [AR 42, AI k, AI 0]) (stk := []) ct_X8_of_41 (gdS rfl rfl (iw10 _ (List.mem_of_getElem? (i := 10) rfl)) (iw10 _ (List.mem_of_getElem? (i := 11) rfl)) (iw1 _ (List.mem_of_getElem? (i := 5) rfl)) (iw10 _ (List.mem_of_getElem? (i := 12) rfl))) rfl ⟨rfl, rfl⟩ (by decide +kernel) ⟨by decide, by decide⟩ dX8_lifeAt_12 rfl rfl (Nat.le_of_ble_eq_true rfl) ?_
        refine ⟨_, _, rfl, by omega, fun v3 ev3 => ?_⟩
        replace ev3 : v3 = nO (hi 41) k ∧ inR v3 := ev3
        refine z_iload_n (pc := 15) dX8_lifeAt_15 rfl 2 rfl ?_
        refine z_icmp_ne (pc := 16) (tgt := 30) dX8_lifeAt_16 (by decide) ⟨by omega, by omega⟩ ⟨by omega, by omega⟩ (fun c4 => ?_) (fun c4 => ?_)
        · refine z_iinc (pc := 30) (j := 0) (w := fun q => (3, AI q) :: [(0, AR 42), (1, AI x), (2, AI h)]) dX8_lifeAt_30 rfl (by decide) (fun _ => rfl) (fun v5 ev5 => ?_)
          refine z_goto (pc := 33) (tgt := 2) dX8_lifeAt_33 (by decide) ?_
          exact ih2 v5 (by omega) (no_step i1 (by omega) (by omega)) (by omega)
        · refine z_aload_n (pc := 19) (x := 42) dX8_lifeAt_19 rfl 1 rfl ?_
          refine z_iload_n (pc := 20) dX8_lifeAt_20 rfl 0 rfl ?_
          refine z_iload_n (pc := 21) dX8_lifeAt_21 rfl 3 rfl ?_
          refine z_callS (pc := 22) (kc := kX8_lives) (n := 3) (As := [AR 42, AI k, AI h]) (stk := []) ct_X8_lives_41 (gdS rfl rfl (iw10 _ (List.mem_of_getElem? (i := 13) rfl)) (iw10 _ (List.mem_of_getElem? (i := 14) rfl)) (iw1 _ (List.mem_of_getElem? (i := 5) rfl)) (iw10 _ (List.mem_of_getElem? (i := 15) rfl))) rfl ⟨rfl, rfl⟩ (by decide +kernel) ⟨by decide, by decide⟩ dX8_lifeAt_22 rfl rfl (Nat.le_of_ble_eq_true rfl) ?_
          refine ⟨_, _, rfl, by omega, fun v6 ev6 => ?_⟩
          refine z_if_eq (pc := 25) (tgt := 30) dX8_lifeAt_25 (by decide) ⟨by omega, by omega⟩ (fun c7 => ?_) (fun c7 => ?_)
          · refine z_iinc (pc := 30) (j := 0) (w := fun q => (3, AI q) :: [(0, AR 42), (1, AI x), (2, AI h)]) dX8_lifeAt_30 rfl (by decide) (fun _ => rfl) (fun v8 ev8 => ?_)
            refine z_goto (pc := 33) (tgt := 2) dX8_lifeAt_33 (by decide) ?_
            exact ih2 v8 (by omega) (no_step i1 (by omega) (by omega)) (by omega)
          · refine z_iload_n (pc := 28) dX8_lifeAt_28 rfl 0 rfl ?_
            refine z_iret (pc := 29) rfl dX8_lifeAt_29 ?_
            exact hQ k (by first | exact Or.inr ⟨rfl, fun z h0 h1 => i1 z h0 (by omega)⟩ | exact Or.inl ⟨by omega, by omega, by omega, i1⟩)
  exact J2 _ 0 (by omega) (no_0 rfl) (Nat.lt_succ_self _)

abbrev kX8_isAlive : Kd := (cX8_isAlive, .code yX8_isAlive cX8_isAlive 3 (some .boolean) :: wsL_law0, rmL 4, RX8, (some .boolean), 3)
theorem ct_X8_isAlive : Ct kX8_isAlive yX8_isAlive (fun a hi Q => ∃ x : Int, ∃ h : Int, a = [AR 40, AI x, AI h] ∧ ((0 ≤ hi 40 0 ∧ hi 40 0 ≤ 41) ∧ inR x ∧ inR h) ∧ ∀ v : Int, ((v = 1 ∧ Hrs (hi 40) (hi 40 0) x (-1) h) ∨ (v = 0 ∧ ¬ Hrs (hi 40) (hi 40 0) x (-1) h)) → Q (AI v) hi) := by
  refine Ct.of (ws' := _) (by decide +kernel) rfl rfl ?_
  intro a hi Q hT
  obtain ⟨x, h, rfl, hpre, hQ⟩ := hT
  refine ⟨Nat.le_of_ble_eq_true rfl, ?_⟩
  show Z kX8_isAlive Q 0 [(0, AR 40), (1, AI x), (2, AI h)] [] hi
  refine z_aload_n (pc := 0) (x := 40) dX8_isAlive_0 rfl 0 rfl ?_
  refine z_getR (pc := 1) (pl := 39) (f := 1) (ci := 7) (C := RX8) (T := TX8) (N := 33) hu_X8 (by decide) rfl rfl (by decide) rfl (List.mem_cons_of_mem _ (iw5 _ (List.mem_of_getElem? (i := 5) rfl))) rfl dX8_isAlive_1 ?_
  refine z_iload_n (pc := 4) dX8_isAlive_4 rfl 1 rfl ?_
  refine z_iload_n (pc := 5) dX8_isAlive_5 rfl 2 rfl ?_
  refine z_callS (pc := 6) (kc := kX8_lifeAt) (n := 3) (As := [AR 41, AI x, AI h]) (stk := []) ct_X8_lifeAt_40 (gdS rfl rfl (iw10 _ (List.mem_of_getElem? (i := 7) rfl)) (iw10 _ (List.mem_of_getElem? (i := 8) rfl)) (iw1 _ (List.mem_of_getElem? (i := 5) rfl)) (iw10 _ (List.mem_of_getElem? (i := 9) rfl))) rfl ⟨rfl, rfl⟩ (by decide +kernel) ⟨by decide, by decide⟩ dX8_isAlive_6 rfl rfl (Nat.le_of_ble_eq_true rfl) ?_
  refine ⟨_, _, rfl, ⟨by omega, ⟨by omega, by omega⟩, ⟨by omega, by omega⟩⟩, fun v1 ev1 => ?_⟩
  have wf := fst_none ev1
  have gwf := Fst.rng41 ev1 (by omega)
  refine z_iconst (pc := 9) (v := (-1)) dX8_isAlive_9 rfl ?_
  refine z_icmp_eq (pc := 10) (tgt := 17) dX8_isAlive_10 (by decide) ⟨by omega, by omega⟩ ⟨by decide, by decide⟩ (fun c2 => ?_) (fun c2 => ?_)
  · refine z_iconst (pc := 17) (v := 0) dX8_isAlive_17 rfl ?_
    refine z_zret (pc := 18) rfl (by decide) dX8_isAlive_18 ?_
    exact hQ 0 (by first | exact Or.inl ⟨rfl, wf.mp (by omega)⟩ | exact Or.inr ⟨rfl, fun z => absurd (wf.mpr z) (by omega)⟩)
  · refine z_iconst (pc := 13) (v := 1) dX8_isAlive_13 rfl ?_
    refine z_goto (pc := 14) (tgt := 18) dX8_isAlive_14 (by decide) ?_
    refine z_zret (pc := 18) rfl (by decide) dX8_isAlive_18 ?_
    exact hQ 1 (by first | exact Or.inl ⟨rfl, wf.mp (by omega)⟩ | exact Or.inr ⟨rfl, fun z => absurd (wf.mpr z) (by omega)⟩)

abbrev kX8_isLocked : Kd := (cX8_isLocked, .code yX8_isLocked cX8_isLocked 3 (some .boolean) :: wsL_law0, rmL 4, RX8, (some .boolean), 3)
theorem ct_X8_isLocked : Ct kX8_isLocked yX8_isLocked (fun a hi Q => ∃ x : Int, a = [AR 40, AI x] ∧ ((0 ≤ hi 40 0 ∧ hi 40 0 ≤ 40) ∧ (0 ≤ hi 41 0 ∧ hi 41 0 ≤ 41) ∧ inR x) ∧ ∀ v : Int, ((v = 1 ∧ LKm (hi 40) (hi 41) x) ∨ (v = 0 ∧ ¬ LKm (hi 40) (hi 41) x)) → Q (AI v) hi) := by
  refine Ct.of (ws' := _) (by decide +kernel) rfl rfl ?_
  intro a hi Q hT
  obtain ⟨x, rfl, hpre, hQ⟩ := hT
  refine ⟨Nat.le_of_ble_eq_true rfl, ?_⟩
  show Z kX8_isLocked Q 0 [(0, AR 40), (1, AI x)] [] hi
  refine z_iconst (pc := 0) (v := 0) dX8_isLocked_0 rfl ?_
  refine z_istore_n (pc := 1) (lv' := [(2, AI 0), (0, AR 40), (1, AI x)]) dX8_isLocked_1 rfl (by decide) rfl ?_
  have J2 : ∀ (N : Nat) (h : Int), (0 ≤ h ∧ (h ≤ hi 40 1 ∨ h = 0)) → (∀ z : Int, 0 ≤ z → z < h → ¬ (¬ (Hrs (hi 40) (hi 40 0) x (-1) z ↔ Hrs (hi 41) (hi 41 0) x (-1) z))) → ((hi 40 1 - h).toNat) < N → Z kX8_isLocked Q 2 [(2, AI h), (0, AR 40), (1, AI x)] [] hi := by
    intro N
    induction N with
    | zero => intro h _ _ _; exact absurd (by assumption) (Nat.not_lt_zero _)
    | succ N ih2 =>
      intro h i0 i1 hm2
      refine z_iload_n (pc := 2) dX8_isLocked_2 rfl 0 rfl ?_
      refine z_aload_n (pc := 3) (x := 40) dX8_isLocked_3 rfl 1 rfl ?_
      refine z_getR (pc := 4) (pl := 39) (f := 1) (ci := 7) (C := RX8) (T := TX8) (N := 33) hu_X8 (by decide) rfl rfl (by decide) rfl (List.mem_cons_of_mem _ (iw5 _ (List.mem_of_getElem? (i := 5) rfl))) rfl dX8_isLocked_4 ?_
      refine z_iconst (pc := 7) (v := 1) dX8_isLocked_7 rfl ?_
      refine z_iald (pc := 8) (pl := 40) (by decide) rfl (by decide) (by decide) (by decide) (by decide) dX8_isLocked_8 (fun v1 ev1 rv1 => ?_)
      replace ev1 : v1 = hi 40 1 := ev1
      refine z_icmp_ge (pc := 9) (tgt := 59) dX8_isLocked_9 (by decide) ⟨by omega, by omega⟩ ⟨by omega, by omega⟩ (fun c2 => ?_) (fun c2 => ?_)
      · refine z_iconst (pc := 59) (v := 0) dX8_isLocked_59 rfl ?_
        refine z_zret (pc := 60) rfl (by decide) dX8_isLocked_60 ?_
        exact hQ 0 (by first | exact Or.inl ⟨rfl, h, by omega, by rw [← w18, ← w36]; omega⟩ | exact Or.inr ⟨rfl, fun ⟨z, z0, z1⟩ => i1 z z0.1 (by omega) z1⟩)
      · refine z_aload_n (pc := 12) (x := 40) dX8_isLocked_12 rfl 1 rfl ?_
        refine z_getR (pc := 13) (pl := 39) (f := 1) (ci := 7) (C := RX8) (T := TX8) (N := 33) hu_X8 (by decide) rfl rfl (by decide) rfl (List.mem_cons_of_mem _ (iw5 _ (List.mem_of_getElem? (i := 5) rfl))) rfl dX8_isLocked_13 ?_
        refine z_iload_n (pc := 16) dX8_isLocked_16 rfl 2 rfl ?_
        refine z_iload_n (pc := 17) dX8_isLocked_17 rfl 0 rfl ?_
        refine z_callS (pc := 18) (kc := kX8_lifeAt) (n := 3) (As := [AR 41, AI x, AI h]) (stk := []) ct_X8_lifeAt_40 (gdS rfl rfl (iw10 _ (List.mem_of_getElem? (i := 7) rfl)) (iw10 _ (List.mem_of_getElem? (i := 8) rfl)) (iw1 _ (List.mem_of_getElem? (i := 5) rfl)) (iw10 _ (List.mem_of_getElem? (i := 9) rfl))) rfl ⟨rfl, rfl⟩ (by decide +kernel) ⟨by decide, by decide⟩ dX8_isLocked_18 rfl rfl (Nat.le_of_ble_eq_true rfl) ?_
        refine ⟨_, _, rfl, ⟨by omega, ⟨by omega, by omega⟩, ⟨by omega, by omega⟩⟩, fun v3 ev3 => ?_⟩
        have w18 := fst_none ev3
        have gw18 := Fst.rng41 ev3 (by omega)
        refine z_iconst (pc := 21) (v := (-1)) dX8_isLocked_21 rfl ?_
        refine z_icmp_ne (pc := 22) (tgt := 29) dX8_isLocked_22 (by decide) ⟨by omega, by omega⟩ ⟨by decide, by decide⟩ (fun c4 => ?_) (fun c4 => ?_)
        · refine z_iconst (pc := 29) (v := 0) dX8_isLocked_29 rfl ?_
          refine z_aload_n (pc := 30) (x := 40) dX8_isLocked_30 rfl 1 rfl ?_
          refine z_getR (pc := 31) (pl := 39) (f := 2) (ci := 7) (C := RX8) (T := TX8) (N := 33) hu_X8 (by decide) rfl rfl (by decide) rfl (List.mem_cons_of_mem _ (iw5 _ (List.mem_of_getElem? (i := 6) rfl))) rfl dX8_isLocked_31 ?_
          refine z_iload_n (pc := 34) dX8_isLocked_34 rfl 2 rfl ?_
          refine z_iload_n (pc := 35) dX8_isLocked_35 rfl 0 rfl ?_
          refine z_callS (pc := 36) (kc := kX8_lifeAt) (n := 3) (As := [AR 42, AI x, AI h]) (stk := [AI 0]) ct_X8_lifeAt_41 (gdS rfl rfl (iw10 _ (List.mem_of_getElem? (i := 7) rfl)) (iw10 _ (List.mem_of_getElem? (i := 8) rfl)) (iw1 _ (List.mem_of_getElem? (i := 5) rfl)) (iw10 _ (List.mem_of_getElem? (i := 9) rfl))) rfl ⟨rfl, rfl⟩ (by decide +kernel) ⟨by decide, by decide⟩ dX8_isLocked_36 rfl rfl (Nat.le_of_ble_eq_true rfl) ?_
          refine ⟨_, _, rfl, ⟨by omega, ⟨by omega, by omega⟩, ⟨by omega, by omega⟩⟩, fun v5 ev5 => ?_⟩
          have w36 := fst_none ev5
          have gw36 := Fst.rng41 ev5 (by omega)
          refine z_iconst (pc := 39) (v := (-1)) dX8_isLocked_39 rfl ?_
          refine z_icmp_ne (pc := 40) (tgt := 47) dX8_isLocked_40 (by decide) ⟨by omega, by omega⟩ ⟨by decide, by decide⟩ (fun c6 => ?_) (fun c6 => ?_)
          · refine z_iconst (pc := 47) (v := 0) dX8_isLocked_47 rfl ?_
            refine z_icmp_eq (pc := 48) (tgt := 53) dX8_isLocked_48 (by decide) ⟨by decide, by decide⟩ ⟨by decide, by decide⟩ (fun _ => ?_) (fun q => absurd q (by decide))
            refine z_iinc (pc := 53) (j := 0) (w := fun q => (2, AI q) :: [(0, AR 40), (1, AI x)]) dX8_isLocked_53 rfl (by decide) (fun _ => rfl) (fun v7 ev7 => ?_)
            refine z_goto (pc := 56) (tgt := 2) dX8_isLocked_56 (by decide) ?_
            exact ih2 v7 (by omega) (no_step i1 (by rw [← w18, ← w36]; omega) (by omega)) (by omega)
          · refine z_iconst (pc := 43) (v := 1) dX8_isLocked_43 rfl ?_
            refine z_goto (pc := 44) (tgt := 48) dX8_isLocked_44 (by decide) ?_
            refine z_icmp_eq (pc := 48) (tgt := 53) dX8_isLocked_48 (by decide) ⟨by decide, by decide⟩ ⟨by decide, by decide⟩ (fun q => absurd q (by decide)) (fun _ => ?_)
            refine z_iconst (pc := 51) (v := 1) dX8_isLocked_51 rfl ?_
            refine z_zret (pc := 52) rfl (by decide) dX8_isLocked_52 ?_
            exact hQ 1 (by first | exact Or.inl ⟨rfl, h, by omega, by rw [← w18, ← w36]; omega⟩ | exact Or.inr ⟨rfl, fun ⟨z, z0, z1⟩ => i1 z z0.1 (by omega) z1⟩)
        · refine z_iconst (pc := 25) (v := 1) dX8_isLocked_25 rfl ?_
          refine z_goto (pc := 26) (tgt := 30) dX8_isLocked_26 (by decide) ?_
          refine z_aload_n (pc := 30) (x := 40) dX8_isLocked_30 rfl 1 rfl ?_
          refine z_getR (pc := 31) (pl := 39) (f := 2) (ci := 7) (C := RX8) (T := TX8) (N := 33) hu_X8 (by decide) rfl rfl (by decide) rfl (List.mem_cons_of_mem _ (iw5 _ (List.mem_of_getElem? (i := 6) rfl))) rfl dX8_isLocked_31 ?_
          refine z_iload_n (pc := 34) dX8_isLocked_34 rfl 2 rfl ?_
          refine z_iload_n (pc := 35) dX8_isLocked_35 rfl 0 rfl ?_
          refine z_callS (pc := 36) (kc := kX8_lifeAt) (n := 3) (As := [AR 42, AI x, AI h]) (stk := [AI 1]) ct_X8_lifeAt_41 (gdS rfl rfl (iw10 _ (List.mem_of_getElem? (i := 7) rfl)) (iw10 _ (List.mem_of_getElem? (i := 8) rfl)) (iw1 _ (List.mem_of_getElem? (i := 5) rfl)) (iw10 _ (List.mem_of_getElem? (i := 9) rfl))) rfl ⟨rfl, rfl⟩ (by decide +kernel) ⟨by decide, by decide⟩ dX8_isLocked_36 rfl rfl (Nat.le_of_ble_eq_true rfl) ?_
          refine ⟨_, _, rfl, ⟨by omega, ⟨by omega, by omega⟩, ⟨by omega, by omega⟩⟩, fun v8 ev8 => ?_⟩
          have w36 := fst_none ev8
          have gw36 := Fst.rng41 ev8 (by omega)
          refine z_iconst (pc := 39) (v := (-1)) dX8_isLocked_39 rfl ?_
          refine z_icmp_ne (pc := 40) (tgt := 47) dX8_isLocked_40 (by decide) ⟨by omega, by omega⟩ ⟨by decide, by decide⟩ (fun c9 => ?_) (fun c9 => ?_)
          · refine z_iconst (pc := 47) (v := 0) dX8_isLocked_47 rfl ?_
            refine z_icmp_eq (pc := 48) (tgt := 53) dX8_isLocked_48 (by decide) ⟨by decide, by decide⟩ ⟨by decide, by decide⟩ (fun q => absurd q (by decide)) (fun _ => ?_)
            refine z_iconst (pc := 51) (v := 1) dX8_isLocked_51 rfl ?_
            refine z_zret (pc := 52) rfl (by decide) dX8_isLocked_52 ?_
            exact hQ 1 (by first | exact Or.inl ⟨rfl, h, by omega, by rw [← w18, ← w36]; omega⟩ | exact Or.inr ⟨rfl, fun ⟨z, z0, z1⟩ => i1 z z0.1 (by omega) z1⟩)
          · refine z_iconst (pc := 43) (v := 1) dX8_isLocked_43 rfl ?_
            refine z_goto (pc := 44) (tgt := 48) dX8_isLocked_44 (by decide) ?_
            refine z_icmp_eq (pc := 48) (tgt := 53) dX8_isLocked_48 (by decide) ⟨by decide, by decide⟩ ⟨by decide, by decide⟩ (fun _ => ?_) (fun q => absurd q (by decide))
            refine z_iinc (pc := 53) (j := 0) (w := fun q => (2, AI q) :: [(0, AR 40), (1, AI x)]) dX8_isLocked_53 rfl (by decide) (fun _ => rfl) (fun v10 ev10 => ?_)
            refine z_goto (pc := 56) (tgt := 2) dX8_isLocked_56 (by decide) ?_
            exact ih2 v10 (by omega) (no_step i1 (by rw [← w18, ← w36]; omega) (by omega)) (by omega)
  exact J2 _ 0 (by omega) (no_0 rfl) (Nat.lt_succ_self _)

abbrev kX8_isClash : Kd := (cX8_isClash, .code yX8_isClash cX8_isClash 5 (some .boolean) :: wsL_law0, rmL 3, RX8, (some .boolean), 5)
theorem ct_X8_isClash : Ct kX8_isClash yX8_isClash (fun a hi Q => ∃ x : Int, a = [AR 40, AI x] ∧ ((0 ≤ hi 41 0 ∧ hi 41 0 ≤ 41) ∧ inR x) ∧ ∀ v : Int, ((v = 1 ∧ CLm (hi 41) x) ∨ (v = 0 ∧ ¬ CLm (hi 41) x)) → Q (AI v) hi) := by
  refine Ct.of (ws' := _) (by decide +kernel) rfl rfl ?_
  intro a hi Q hT
  obtain ⟨x, rfl, hpre, hQ⟩ := hT
  refine ⟨Nat.le_of_ble_eq_true rfl, ?_⟩
  show Z kX8_isClash Q 0 [(0, AR 40), (1, AI x)] [] hi
  refine z_iconst (pc := 0) (v := 0) dX8_isClash_0 rfl ?_
  refine z_istore_n (pc := 1) (lv' := [(2, AI 0), (0, AR 40), (1, AI x)]) dX8_isClash_1 rfl (by decide) rfl ?_
  have J2 : ∀ (N : Nat) (h : Int), (0 ≤ h ∧ h ≤ 64) → (∀ z : Int, 0 ≤ z → z < h → ¬ (1 < cX (hi 41) x z (hi 41 0).toNat)) → ((64 - h).toNat) < N → Z kX8_isClash Q 2 [(2, AI h), (0, AR 40), (1, AI x)] [] hi := by
    intro N
    induction N with
    | zero => intro h _ _ _; exact absurd (by assumption) (Nat.not_lt_zero _)
    | succ N ih2 =>
      intro h i0 i1 hm2
      refine z_iload_n (pc := 2) dX8_isClash_2 rfl 0 rfl ?_
      refine z_bipush (pc := 3) (v := 64) dX8_isClash_3 (by decide +kernel) ?_
      refine z_icmp_ge (pc := 5) (tgt := 78) dX8_isClash_5 (by decide) ⟨by omega, by omega⟩ ⟨by decide, by decide⟩ (fun c1 => ?_) (fun c1 => ?_)
      · refine z_iconst (pc := 78) (v := 0) dX8_isClash_78 rfl ?_
        refine z_zret (pc := 79) rfl (by decide) dX8_isClash_79 ?_
        exact hQ 0 (by first | exact Or.inl ⟨rfl, h, by omega, by rw [show hi 41 0 = k by omega]; omega⟩ | exact Or.inr ⟨rfl, fun ⟨z, z0, z1⟩ => i1 z z0.1 (by omega) z1⟩)
      · refine z_iconst (pc := 8) (v := 0) dX8_isClash_8 rfl ?_
        refine z_istore_n (pc := 9) (lv' := [(3, AI 0), (2, AI h), (0, AR 40), (1, AI x)]) dX8_isClash_9 rfl (by decide) rfl ?_
        refine z_iconst (pc := 10) (v := 0) dX8_isClash_10 rfl ?_
        refine z_istore (pc := 11) (lv' := [(4, AI 0), (3, AI 0), (2, AI h), (0, AR 40), (1, AI x)]) dX8_isClash_11 (by decide) rfl ?_
        have J13 : ∀ (N : Nat) (k n : Int), (0 ≤ k ∧ k ≤ hi 41 0) → (n = cX (hi 41) x h k.toNat) → (0 ≤ n ∧ n ≤ k) → ((hi 41 0 - k).toNat) < N → Z kX8_isClash Q 13 [(4, AI k), (3, AI n), (2, AI h), (0, AR 40), (1, AI x)] [] hi := by
          intro N
          induction N with
          | zero => intro k n _ _ _ _; exact absurd (by assumption) (Nat.not_lt_zero _)
          | succ N ih13 =>
            intro k n j0 j1 j2 hm13
            refine z_iload (pc := 13) dX8_isClash_13 0 rfl ?_
            refine z_aload_n (pc := 15) (x := 40) dX8_isClash_15 rfl 3 rfl ?_
            refine z_getR (pc := 16) (pl := 39) (f := 2) (ci := 7) (C := RX8) (T := TX8) (N := 33) hu_X8 (by decide) rfl rfl (by decide) rfl (List.mem_cons_of_mem _ (iw5 _ (List.mem_of_getElem? (i := 6) rfl))) rfl dX8_isClash_16 ?_
            refine z_iconst (pc := 19) (v := 0) dX8_isClash_19 rfl ?_
            refine z_iald (pc := 20) (pl := 41) (by decide) rfl (by decide) (by decide) (by decide) (by decide) dX8_isClash_20 (fun v2 ev2 rv2 => ?_)
            replace ev2 : v2 = hi 41 0 := ev2
            refine z_icmp_ge (pc := 21) (tgt := 65) dX8_isClash_21 (by decide) ⟨by omega, by omega⟩ ⟨by omega, by omega⟩ (fun c3 => ?_) (fun c3 => ?_)
            · refine z_iload_n (pc := 65) dX8_isClash_65 rfl 1 rfl ?_
              refine z_iconst (pc := 66) (v := 1) dX8_isClash_66 rfl ?_
              refine z_icmp_le (pc := 67) (tgt := 72) dX8_isClash_67 (by decide) ⟨by omega, by omega⟩ ⟨by decide, by decide⟩ (fun c4 => ?_) (fun c4 => ?_)
              · refine z_iinc (pc := 72) (j := 2) (w := fun q => (2, AI q) :: [(4, AI k), (3, AI n), (0, AR 40), (1, AI x)]) dX8_isClash_72 rfl (by decide) (fun _ => rfl) (fun v5 ev5 => ?_)
                refine z_goto (pc := 75) (tgt := 2) dX8_isClash_75 (by decide) ?_
                refine z_sub (lv' := [(2, AI v5), (0, AR 40), (1, AI x)]) [0, 3, 4] rfl ?_
                exact ih2 v5 (by omega) (no_step i1 (by rw [show hi 41 0 = k by omega]; omega) (by omega)) (by omega)
              · refine z_iconst (pc := 70) (v := 1) dX8_isClash_70 rfl ?_
                refine z_zret (pc := 71) rfl (by decide) dX8_isClash_71 ?_
                exact hQ 1 (by first | exact Or.inl ⟨rfl, h, by omega, by rw [show hi 41 0 = k by omega]; omega⟩ | exact Or.inr ⟨rfl, fun ⟨z, z0, z1⟩ => i1 z z0.1 (by omega) z1⟩)
            · refine z_iload_n (pc := 24) dX8_isClash_24 rfl 1 rfl ?_
              refine z_aload_n (pc := 25) (x := 40) dX8_isClash_25 rfl 3 rfl ?_
              refine z_getR (pc := 26) (pl := 39) (f := 2) (ci := 7) (C := RX8) (T := TX8) (N := 33) hu_X8 (by decide) rfl rfl (by decide) rfl (List.mem_cons_of_mem _ (iw5 _ (List.mem_of_getElem? (i := 6) rfl))) rfl dX8_isClash_26 ?_
              refine z_iload (pc := 29) dX8_isClash_29 0 rfl ?_
              refine z_iconst (pc := 31) (v := 0) dX8_isClash_31 rfl ?_
              refine z_callS (pc := 32) (kc := kX8_of) (n := 3) (As := [AR 42, AI k, AI 0]) (stk := [AI n]) ct_X8_of_41 (gdS rfl rfl (iw10 _ (List.mem_of_getElem? (i := 10) rfl)) (iw10 _ (List.mem_of_getElem? (i := 11) rfl)) (iw1 _ (List.mem_of_getElem? (i := 5) rfl)) (iw10 _ (List.mem_of_getElem? (i := 12) rfl))) rfl ⟨rfl, rfl⟩ (by decide +kernel) ⟨by decide, by decide⟩ dX8_isClash_32 rfl rfl (Nat.le_of_ble_eq_true rfl) ?_
              refine ⟨_, _, rfl, by omega, fun v6 ev6 => ?_⟩
              replace ev6 : v6 = nO (hi 41) k ∧ inR v6 := ev6
              refine z_iload_n (pc := 35) dX8_isClash_35 rfl 4 rfl ?_
              refine z_icmp_ne (pc := 36) (tgt := 56) dX8_isClash_36 (by decide) ⟨by omega, by omega⟩ ⟨by omega, by omega⟩ (fun c7 => ?_) (fun c7 => ?_)
              · refine z_iconst (pc := 56) (v := 0) dX8_isClash_56 rfl ?_
                refine z_iadd (pc := 57) dX8_isClash_57 (fun v8 ev8 => ?_)
                refine z_istore_n (pc := 58) (lv' := [(3, AI v8), (4, AI k), (2, AI h), (0, AR 40), (1, AI x)]) dX8_isClash_58 rfl (by decide) rfl ?_
                refine z_iinc (pc := 59) (j := 1) (w := fun q => (4, AI q) :: [(3, AI v8), (2, AI h), (0, AR 40), (1, AI x)]) dX8_isClash_59 rfl (by decide) (fun _ => rfl) (fun v9 ev9 => ?_)
                refine z_goto (pc := 62) (tgt := 13) dX8_isClash_62 (by decide) ?_
                exact ih13 v9 v8 (by omega) (sm_step (g := fun z => if nO (hi 41) z = x ∧ al (hi 41) z h then 1 else 0) (by omega) (by omega) j1 (by first | omega | (split <;> omega))) (by omega) (by omega)
              · refine z_aload_n (pc := 39) (x := 40) dX8_isClash_39 rfl 3 rfl ?_
                refine z_getR (pc := 40) (pl := 39) (f := 2) (ci := 7) (C := RX8) (T := TX8) (N := 33) hu_X8 (by decide) rfl rfl (by decide) rfl (List.mem_cons_of_mem _ (iw5 _ (List.mem_of_getElem? (i := 6) rfl))) rfl dX8_isClash_40 ?_
                refine z_iload (pc := 43) dX8_isClash_43 0 rfl ?_
                refine z_iload_n (pc := 45) dX8_isClash_45 rfl 2 rfl ?_
                refine z_callS (pc := 46) (kc := kX8_lives) (n := 3) (As := [AR 42, AI k, AI h]) (stk := [AI n]) ct_X8_lives_41 (gdS rfl rfl (iw10 _ (List.mem_of_getElem? (i := 13) rfl)) (iw10 _ (List.mem_of_getElem? (i := 14) rfl)) (iw1 _ (List.mem_of_getElem? (i := 5) rfl)) (iw10 _ (List.mem_of_getElem? (i := 15) rfl))) rfl ⟨rfl, rfl⟩ (by decide +kernel) ⟨by decide, by decide⟩ dX8_isClash_46 rfl rfl (Nat.le_of_ble_eq_true rfl) ?_
                refine ⟨_, _, rfl, by omega, fun v10 ev10 => ?_⟩
                refine z_if_eq (pc := 49) (tgt := 56) dX8_isClash_49 (by decide) ⟨by omega, by omega⟩ (fun c11 => ?_) (fun c11 => ?_)
                · refine z_iconst (pc := 56) (v := 0) dX8_isClash_56 rfl ?_
                  refine z_iadd (pc := 57) dX8_isClash_57 (fun v12 ev12 => ?_)
                  refine z_istore_n (pc := 58) (lv' := [(3, AI v12), (4, AI k), (2, AI h), (0, AR 40), (1, AI x)]) dX8_isClash_58 rfl (by decide) rfl ?_
                  refine z_iinc (pc := 59) (j := 1) (w := fun q => (4, AI q) :: [(3, AI v12), (2, AI h), (0, AR 40), (1, AI x)]) dX8_isClash_59 rfl (by decide) (fun _ => rfl) (fun v13 ev13 => ?_)
                  refine z_goto (pc := 62) (tgt := 13) dX8_isClash_62 (by decide) ?_
                  exact ih13 v13 v12 (by omega) (sm_step (g := fun z => if nO (hi 41) z = x ∧ al (hi 41) z h then 1 else 0) (by omega) (by omega) j1 (by first | omega | (split <;> omega))) (by omega) (by omega)
                · refine z_iconst (pc := 52) (v := 1) dX8_isClash_52 rfl ?_
                  refine z_goto (pc := 53) (tgt := 57) dX8_isClash_53 (by decide) ?_
                  refine z_iadd (pc := 57) dX8_isClash_57 (fun v14 ev14 => ?_)
                  refine z_istore_n (pc := 58) (lv' := [(3, AI v14), (4, AI k), (2, AI h), (0, AR 40), (1, AI x)]) dX8_isClash_58 rfl (by decide) rfl ?_
                  refine z_iinc (pc := 59) (j := 1) (w := fun q => (4, AI q) :: [(3, AI v14), (2, AI h), (0, AR 40), (1, AI x)]) dX8_isClash_59 rfl (by decide) (fun _ => rfl) (fun v15 ev15 => ?_)
                  refine z_goto (pc := 62) (tgt := 13) dX8_isClash_62 (by decide) ?_
                  exact ih13 v15 v14 (by omega) (sm_step (g := fun z => if nO (hi 41) z = x ∧ al (hi 41) z h then 1 else 0) (by omega) (by omega) j1 (by first | omega | (split <;> omega))) (by omega) (by omega)
        exact J13 _ 0 0 (by omega) (sm_0 rfl rfl) (by omega) (Nat.lt_succ_self _)
  exact J2 _ 0 (by omega) (no_0 rfl) (Nat.lt_succ_self _)

abbrev kX8_puts : Kd := (cX8_puts, .code yX8_puts cX8_puts 7 none :: wsL_law0, rmL 1, RX8, none, 7)
theorem ct_X8_puts : Ct kX8_puts yX8_puts (fun a hi Q => ∃ k : Int, ∃ x : Int, ∃ b : Int, ∃ d : Int, ∃ w : Int, a = [AR 40, AI k, AI x, AI b, AI d, AI w] ∧ ((0 ≤ k ∧ k ≤ 40) ∧ inR x ∧ inR b ∧ inR d ∧ inR w) ∧ ∀ h2 : HI, (Fr [41] hi h2 ∧ (∃ f2, h2 = hput hi 41 f2 ∧ PutAt (hi 41) f2 k x b d w)) → Q AU h2) := by
  refine Ct.of (ws' := _) (by decide +kernel) rfl rfl ?_
  intro a hi Q hT
  obtain ⟨k, x, b, d, w, rfl, hpre, hQ⟩ := hT
  refine ⟨Nat.le_of_ble_eq_true rfl, ?_⟩
  show Z kX8_puts Q 0 [(0, AR 40), (1, AI k), (2, AI x), (3, AI b), (4, AI d), (5, AI w)] [] hi
  refine z_iconst (pc := 0) (v := 2) dX8_puts_0 rfl ?_
  refine z_iconst (pc := 1) (v := 4) dX8_puts_1 rfl ?_
  refine z_iload_n (pc := 2) dX8_puts_2 rfl 1 rfl ?_
  refine z_imul (pc := 3) dX8_puts_3 (fun v1 ev1 => ?_)
  refine z_iadd (pc := 4) dX8_puts_4 (fun v2 ev2 => ?_)
  refine z_istore (pc := 5) (lv' := [(6, AI v2), (0, AR 40), (1, AI k), (2, AI x), (3, AI b), (4, AI d), (5, AI w)]) dX8_puts_5 (by decide) rfl ?_
  refine z_aload_n (pc := 7) (x := 40) dX8_puts_7 rfl 1 rfl ?_
  refine z_getR (pc := 8) (pl := 39) (f := 2) (ci := 7) (C := RX8) (T := TX8) (N := 33) hu_X8 (by decide) rfl rfl (by decide) rfl (List.mem_cons_of_mem _ (iw5 _ (List.mem_of_getElem? (i := 6) rfl))) rfl dX8_puts_8 ?_
  refine z_iload (pc := 11) dX8_puts_11 0 rfl ?_
  refine z_iconst (pc := 13) (v := 0) dX8_puts_13 rfl ?_
  refine z_iadd (pc := 14) dX8_puts_14 (fun v3 ev3 => ?_)
  refine z_iload_n (pc := 15) dX8_puts_15 rfl 3 rfl ?_
  refine z_iast (pc := 16) (pl := 41) (by decide) rfl (by decide) (by omega) (by omega) ⟨by omega, by omega⟩ dX8_puts_16 (fun h4 eh4 => ?_)
  have frh4 : Fr [41] hi h4 := (Fr.put (Fr.rf) eh4 (by decide))
  refine z_aload_n (pc := 17) (x := 40) dX8_puts_17 rfl 1 rfl ?_
  refine z_getR (pc := 18) (pl := 39) (f := 2) (ci := 7) (C := RX8) (T := TX8) (N := 33) hu_X8 (by decide) rfl rfl (by decide) rfl (List.mem_cons_of_mem _ (iw5 _ (List.mem_of_getElem? (i := 6) rfl))) rfl dX8_puts_18 ?_
  refine z_iload (pc := 21) dX8_puts_21 0 rfl ?_
  refine z_iconst (pc := 23) (v := 1) dX8_puts_23 rfl ?_
  refine z_iadd (pc := 24) dX8_puts_24 (fun v5 ev5 => ?_)
  refine z_iload_n (pc := 25) dX8_puts_25 rfl 4 rfl ?_
  refine z_iast (pc := 26) (pl := 41) (by decide) rfl (by decide) (by omega) (by omega) ⟨by omega, by omega⟩ dX8_puts_26 (fun h6 eh6 => ?_)
  have frh6 : Fr [41] hi h6 := (Fr.put frh4 eh6 (by decide))
  refine z_aload_n (pc := 27) (x := 40) dX8_puts_27 rfl 1 rfl ?_
  refine z_getR (pc := 28) (pl := 39) (f := 2) (ci := 7) (C := RX8) (T := TX8) (N := 33) hu_X8 (by decide) rfl rfl (by decide) rfl (List.mem_cons_of_mem _ (iw5 _ (List.mem_of_getElem? (i := 6) rfl))) rfl dX8_puts_28 ?_
  refine z_iload (pc := 31) dX8_puts_31 0 rfl ?_
  refine z_iconst (pc := 33) (v := 2) dX8_puts_33 rfl ?_
  refine z_iadd (pc := 34) dX8_puts_34 (fun v7 ev7 => ?_)
  refine z_iload (pc := 35) dX8_puts_35 5 rfl ?_
  refine z_iast (pc := 37) (pl := 41) (by decide) rfl (by decide) (by omega) (by omega) ⟨by omega, by omega⟩ dX8_puts_37 (fun h8 eh8 => ?_)
  have frh8 : Fr [41] hi h8 := (Fr.put frh6 eh8 (by decide))
  refine z_aload_n (pc := 38) (x := 40) dX8_puts_38 rfl 1 rfl ?_
  refine z_getR (pc := 39) (pl := 39) (f := 2) (ci := 7) (C := RX8) (T := TX8) (N := 33) hu_X8 (by decide) rfl rfl (by decide) rfl (List.mem_cons_of_mem _ (iw5 _ (List.mem_of_getElem? (i := 6) rfl))) rfl dX8_puts_39 ?_
  refine z_iload (pc := 42) dX8_puts_42 0 rfl ?_
  refine z_iconst (pc := 44) (v := 3) dX8_puts_44 rfl ?_
  refine z_iadd (pc := 45) dX8_puts_45 (fun v9 ev9 => ?_)
  refine z_iload (pc := 46) dX8_puts_46 6 rfl ?_
  refine z_iast (pc := 48) (pl := 41) (by decide) rfl (by decide) (by omega) (by omega) ⟨by omega, by omega⟩ dX8_puts_48 (fun h10 eh10 => ?_)
  have frh10 : Fr [41] hi h10 := (Fr.put frh8 eh10 (by decide))
  refine z_vret (pc := 49) rfl dX8_puts_49 ?_
  exact hQ h10 ⟨frh10, put_fin (by subst_vars; simp only [hput_hput, hput_same]; first | done | rfl) (by omega) (by omega) (by omega) (by omega) (by omega)⟩

abbrev kX8_leaves : Kd := (cX8_leaves, .code yX8_leaves cX8_leaves 3 none :: wsL_law0, rmL 1, RX8, none, 3)
theorem ct_X8_leaves : Ct kX8_leaves yX8_leaves (fun a hi Q => ∃ k : Int, a = [AR 40, AI k] ∧ ((0 ≤ k ∧ k < 40) ∧ 1 ≤ hi 41 0 ∧ hi 41 0 ≤ 41) ∧ ∀ h2 : HI, (Fr [41] hi h2 ∧ (∃ f2, h2 = hput hi 41 f2 ∧ RemM (hi 41) f2 k)) → Q AU h2) := by
  refine Ct.of (ws' := _) (by decide +kernel) rfl rfl ?_
  intro a hi Q hT
  obtain ⟨k, rfl, hpre, hQ⟩ := hT
  refine ⟨Nat.le_of_ble_eq_true rfl, ?_⟩
  show Z kX8_leaves Q 0 [(0, AR 40), (1, AI k)] [] hi
  refine z_iconst (pc := 0) (v := 2) dX8_leaves_0 rfl ?_
  refine z_iconst (pc := 1) (v := 4) dX8_leaves_1 rfl ?_
  refine z_iload_n (pc := 2) dX8_leaves_2 rfl 1 rfl ?_
  refine z_imul (pc := 3) dX8_leaves_3 (fun v1 ev1 => ?_)
  refine z_iadd (pc := 4) dX8_leaves_4 (fun v2 ev2 => ?_)
  refine z_istore_n (pc := 5) (lv' := [(2, AI v2), (0, AR 40), (1, AI k)]) dX8_leaves_5 rfl (by decide) rfl ?_
  have J6 : ∀ (N : Nat) (i : Int) (hk : HI), (2 + 4 * k ≤ i ∧ i ≤ 166) → (i ≤ 162 ∨ i = 2 + 4 * k) → (hk = hput hi 41 (shI (hi 41) (2 + 4 * k) i)) → (Fr [41] hi hk) → ((162 - i).toNat) < N → Z kX8_leaves Q 6 [(2, AI i), (0, AR 40), (1, AI k)] [] hk := by
    intro N
    induction N with
    | zero => intro i hk _ _ _ _ _; exact absurd (by assumption) (Nat.not_lt_zero _)
    | succ N ih6 =>
      intro i hk i0 i0b i1 frlhk hm6
      refine z_iload_n (pc := 6) dX8_leaves_6 rfl 0 rfl ?_
      refine z_sipush (pc := 7) (v := 162) dX8_leaves_7 (by decide +kernel) ?_
      refine z_icmp_ge (pc := 10) (tgt := 33) dX8_leaves_10 (by decide) ⟨by omega, by omega⟩ ⟨by decide, by decide⟩ (fun c3 => ?_) (fun c3 => ?_)
      · refine z_aload_n (pc := 33) (x := 40) dX8_leaves_33 rfl 1 rfl ?_
        refine z_getR (pc := 34) (pl := 39) (f := 2) (ci := 7) (C := RX8) (T := TX8) (N := 33) hu_X8 (by decide) rfl rfl (by decide) rfl (List.mem_cons_of_mem _ (iw5 _ (List.mem_of_getElem? (i := 6) rfl))) rfl dX8_leaves_34 ?_
        refine z_iconst (pc := 37) (v := 0) dX8_leaves_37 rfl ?_
        refine z_dup2 (pc := 38) dX8_leaves_38 rfl rfl ?_
        refine z_iald (pc := 39) (pl := 41) (by decide) rfl (by decide) (by decide) (by decide) (by decide) dX8_leaves_39 (fun v4 ev4 rv4 => ?_)
        replace ev4 : v4 = hk 41 0 := ev4
        have q39 : hk 41 0 = hi 41 0 := by rw [i1, hput_same]; unfold shI; rw [if_neg (by omega)]
        refine z_iconst (pc := 40) (v := 1) dX8_leaves_40 rfl ?_
        refine z_isub (pc := 41) dX8_leaves_41 (fun v5 ev5 => ?_)
        refine z_iast (pc := 42) (pl := 41) (by decide) rfl (by decide) (by decide) (by decide) ⟨by omega, by omega⟩ dX8_leaves_42 (fun h6 eh6 => ?_)
        replace eh6 : h6 = hput hk 41 (updI (hk 41) 0 v5) := eh6
        have frh6 : Fr [41] hi h6 := (Fr.put frlhk eh6 (by decide))
        refine z_vret (pc := 43) rfl dX8_leaves_43 ?_
        exact hQ h6 ⟨frh6, rem_finM i1 (by omega) rfl (by omega) ⟨_, (by assumption), (by omega)⟩ eh6⟩
      · refine z_aload_n (pc := 13) (x := 40) dX8_leaves_13 rfl 1 rfl ?_
        refine z_getR (pc := 14) (pl := 39) (f := 2) (ci := 7) (C := RX8) (T := TX8) (N := 33) hu_X8 (by decide) rfl rfl (by decide) rfl (List.mem_cons_of_mem _ (iw5 _ (List.mem_of_getElem? (i := 6) rfl))) rfl dX8_leaves_14 ?_
        refine z_iload_n (pc := 17) dX8_leaves_17 rfl 0 rfl ?_
        refine z_aload_n (pc := 18) (x := 40) dX8_leaves_18 rfl 1 rfl ?_
        refine z_getR (pc := 19) (pl := 39) (f := 2) (ci := 7) (C := RX8) (T := TX8) (N := 33) hu_X8 (by decide) rfl rfl (by decide) rfl (List.mem_cons_of_mem _ (iw5 _ (List.mem_of_getElem? (i := 6) rfl))) rfl dX8_leaves_19 ?_
        refine z_iload_n (pc := 22) dX8_leaves_22 rfl 0 rfl ?_
        refine z_iconst (pc := 23) (v := 4) dX8_leaves_23 rfl ?_
        refine z_iadd (pc := 24) dX8_leaves_24 (fun v7 ev7 => ?_)
        refine z_iald (pc := 25) (pl := 41) (by decide) rfl (by decide) (by decide) (by omega) (by omega) dX8_leaves_25 (fun v8 ev8 rv8 => ?_)
        refine z_iast (pc := 26) (pl := 41) (by decide) rfl (by decide) (by omega) (by omega) ⟨by omega, by omega⟩ dX8_leaves_26 (fun h9 eh9 => ?_)
        have frh9 : Fr [41] hi h9 := (Fr.put frlhk eh9 (by decide))
        refine z_iinc (pc := 27) (j := 0) (w := fun q => (2, AI q) :: [(0, AR 40), (1, AI k)]) dX8_leaves_27 rfl (by decide) (fun _ => rfl) (fun v10 ev10 => ?_)
        refine z_goto (pc := 30) (tgt := 6) dX8_leaves_30 (by decide) ?_
        exact ih6 v10 h9 (by omega) (by omega) (shI_step i1 (by omega) (by omega) (by omega) (by omega) (by assumption) eh9) (frh9) (by omega)
  exact J6 _ v2 hi (by omega) (by omega) (shI_0 (by omega)) ((Fr.rf)) (Nat.lt_succ_self _)

abbrev kX8_isBehind : Kd := (cX8_isBehind, .code yX8_isBehind cX8_isBehind 4 (some .boolean) :: wsL_law0, rmL 2, RX8, (some .boolean), 4)
theorem ct_X8_isBehind : Ct kX8_isBehind yX8_isBehind (fun a hi Q => ∃ x : Int, ∃ y : Int, a = [AR 40, AI x, AI y] ∧ (((0 ≤ x ∧ x ≤ 40) ∧ 0 ≤ y ∧ y ≤ 40) ∧ (0 ≤ nO (hi 41) x ∧ nO (hi 41) x ≤ 999) ∧ 0 ≤ nO (hi 41) y ∧ nO (hi 41) y ≤ 999) ∧ ∀ v : Int, ((v = 1 ∧ (nO (hi 41) y < nO (hi 41) x ∨ (nO (hi 41) y = nO (hi 41) x ∧ bO (hi 41) y < bO (hi 41) x))) ∨ (v = 0 ∧ ¬ (nO (hi 41) y < nO (hi 41) x ∨ (nO (hi 41) y = nO (hi 41) x ∧ bO (hi 41) y < bO (hi 41) x)))) → Q (AI v) hi) := by
  refine Ct.of (ws' := _) (by decide +kernel) rfl rfl ?_
  intro a hi Q hT
  obtain ⟨x, y, rfl, hpre, hQ⟩ := hT
  refine ⟨Nat.le_of_ble_eq_true rfl, ?_⟩
  show Z kX8_isBehind Q 0 [(0, AR 40), (1, AI x), (2, AI y)] [] hi
  refine z_aload_n (pc := 0) (x := 40) dX8_isBehind_0 rfl 0 rfl ?_
  refine z_getR (pc := 1) (pl := 39) (f := 2) (ci := 7) (C := RX8) (T := TX8) (N := 33) hu_X8 (by decide) rfl rfl (by decide) rfl (List.mem_cons_of_mem _ (iw5 _ (List.mem_of_getElem? (i := 6) rfl))) rfl dX8_isBehind_1 ?_
  refine z_iload_n (pc := 4) dX8_isBehind_4 rfl 1 rfl ?_
  refine z_iconst (pc := 5) (v := 0) dX8_isBehind_5 rfl ?_
  refine z_callS (pc := 6) (kc := kX8_of) (n := 3) (As := [AR 42, AI x, AI 0]) (stk := []) ct_X8_of_41 (gdS rfl rfl (iw10 _ (List.mem_of_getElem? (i := 10) rfl)) (iw10 _ (List.mem_of_getElem? (i := 11) rfl)) (iw1 _ (List.mem_of_getElem? (i := 5) rfl)) (iw10 _ (List.mem_of_getElem? (i := 12) rfl))) rfl ⟨rfl, rfl⟩ (by decide +kernel) ⟨by decide, by decide⟩ dX8_isBehind_6 rfl rfl (Nat.le_of_ble_eq_true rfl) ?_
  refine ⟨_, _, rfl, by omega, fun v1 ev1 => ?_⟩
  replace ev1 : v1 = nO (hi 41) x ∧ inR v1 := ev1
  refine z_aload_n (pc := 9) (x := 40) dX8_isBehind_9 rfl 0 rfl ?_
  refine z_getR (pc := 10) (pl := 39) (f := 2) (ci := 7) (C := RX8) (T := TX8) (N := 33) hu_X8 (by decide) rfl rfl (by decide) rfl (List.mem_cons_of_mem _ (iw5 _ (List.mem_of_getElem? (i := 6) rfl))) rfl dX8_isBehind_10 ?_
  refine z_iload_n (pc := 13) dX8_isBehind_13 rfl 2 rfl ?_
  refine z_iconst (pc := 14) (v := 0) dX8_isBehind_14 rfl ?_
  refine z_callS (pc := 15) (kc := kX8_of) (n := 3) (As := [AR 42, AI y, AI 0]) (stk := [AI v1]) ct_X8_of_41 (gdS rfl rfl (iw10 _ (List.mem_of_getElem? (i := 10) rfl)) (iw10 _ (List.mem_of_getElem? (i := 11) rfl)) (iw1 _ (List.mem_of_getElem? (i := 5) rfl)) (iw10 _ (List.mem_of_getElem? (i := 12) rfl))) rfl ⟨rfl, rfl⟩ (by decide +kernel) ⟨by decide, by decide⟩ dX8_isBehind_15 rfl rfl (Nat.le_of_ble_eq_true rfl) ?_
  refine ⟨_, _, rfl, by omega, fun v2 ev2 => ?_⟩
  replace ev2 : v2 = nO (hi 41) y ∧ inR v2 := ev2
  refine z_isub (pc := 18) dX8_isBehind_18 (fun v3 ev3 => ?_)
  refine z_istore_n (pc := 19) (lv' := [(3, AI v3), (0, AR 40), (1, AI x), (2, AI y)]) dX8_isBehind_19 rfl (by decide) rfl ?_
  refine z_iload_n (pc := 20) dX8_isBehind_20 rfl 0 rfl ?_
  refine z_if_gt (pc := 21) (tgt := 49) dX8_isBehind_21 (by decide) ⟨by omega, by omega⟩ (fun c4 => ?_) (fun c4 => ?_)
  · refine z_iconst (pc := 49) (v := 1) dX8_isBehind_49 rfl ?_
    refine z_goto (pc := 50) (tgt := 54) dX8_isBehind_50 (by decide) ?_
    refine z_zret (pc := 54) rfl (by decide) dX8_isBehind_54 ?_
    exact hQ 1 (by omega)
  · refine z_iload_n (pc := 24) dX8_isBehind_24 rfl 0 rfl ?_
    refine z_if_ne (pc := 25) (tgt := 53) dX8_isBehind_25 (by decide) ⟨by omega, by omega⟩ (fun c5 => ?_) (fun c5 => ?_)
    · refine z_iconst (pc := 53) (v := 0) dX8_isBehind_53 rfl ?_
      refine z_zret (pc := 54) rfl (by decide) dX8_isBehind_54 ?_
      exact hQ 0 (by omega)
    · refine z_aload_n (pc := 28) (x := 40) dX8_isBehind_28 rfl 1 rfl ?_
      refine z_getR (pc := 29) (pl := 39) (f := 2) (ci := 7) (C := RX8) (T := TX8) (N := 33) hu_X8 (by decide) rfl rfl (by decide) rfl (List.mem_cons_of_mem _ (iw5 _ (List.mem_of_getElem? (i := 6) rfl))) rfl dX8_isBehind_29 ?_
      refine z_iload_n (pc := 32) dX8_isBehind_32 rfl 2 rfl ?_
      refine z_iconst (pc := 33) (v := 1) dX8_isBehind_33 rfl ?_
      refine z_callS (pc := 34) (kc := kX8_of) (n := 3) (As := [AR 42, AI x, AI 1]) (stk := []) ct_X8_of_41 (gdS rfl rfl (iw10 _ (List.mem_of_getElem? (i := 10) rfl)) (iw10 _ (List.mem_of_getElem? (i := 11) rfl)) (iw1 _ (List.mem_of_getElem? (i := 5) rfl)) (iw10 _ (List.mem_of_getElem? (i := 12) rfl))) rfl ⟨rfl, rfl⟩ (by decide +kernel) ⟨by decide, by decide⟩ dX8_isBehind_34 rfl rfl (Nat.le_of_ble_eq_true rfl) ?_
      refine ⟨_, _, rfl, by omega, fun v6 ev6 => ?_⟩
      replace ev6 : v6 = bO (hi 41) x ∧ inR v6 := ev6
      refine z_aload_n (pc := 37) (x := 40) dX8_isBehind_37 rfl 1 rfl ?_
      refine z_getR (pc := 38) (pl := 39) (f := 2) (ci := 7) (C := RX8) (T := TX8) (N := 33) hu_X8 (by decide) rfl rfl (by decide) rfl (List.mem_cons_of_mem _ (iw5 _ (List.mem_of_getElem? (i := 6) rfl))) rfl dX8_isBehind_38 ?_
      refine z_iload_n (pc := 41) dX8_isBehind_41 rfl 3 rfl ?_
      refine z_iconst (pc := 42) (v := 1) dX8_isBehind_42 rfl ?_
      refine z_callS (pc := 43) (kc := kX8_of) (n := 3) (As := [AR 42, AI y, AI 1]) (stk := [AI v6]) ct_X8_of_41 (gdS rfl rfl (iw10 _ (List.mem_of_getElem? (i := 10) rfl)) (iw10 _ (List.mem_of_getElem? (i := 11) rfl)) (iw1 _ (List.mem_of_getElem? (i := 5) rfl)) (iw10 _ (List.mem_of_getElem? (i := 12) rfl))) rfl ⟨rfl, rfl⟩ (by decide +kernel) ⟨by decide, by decide⟩ dX8_isBehind_43 rfl rfl (Nat.le_of_ble_eq_true rfl) ?_
      refine ⟨_, _, rfl, by omega, fun v7 ev7 => ?_⟩
      replace ev7 : v7 = bO (hi 41) y ∧ inR v7 := ev7
      refine z_icmp_le (pc := 46) (tgt := 53) dX8_isBehind_46 (by decide) ⟨by omega, by omega⟩ ⟨by omega, by omega⟩ (fun c8 => ?_) (fun c8 => ?_)
      · refine z_iconst (pc := 53) (v := 0) dX8_isBehind_53 rfl ?_
        refine z_zret (pc := 54) rfl (by decide) dX8_isBehind_54 ?_
        exact hQ 0 (by omega)
      · refine z_iconst (pc := 49) (v := 1) dX8_isBehind_49 rfl ?_
        refine z_goto (pc := 50) (tgt := 54) dX8_isBehind_50 (by decide) ?_
        refine z_zret (pc := 54) rfl (by decide) dX8_isBehind_54 ?_
        exact hQ 1 (by omega)

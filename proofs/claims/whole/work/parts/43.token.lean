/-! tokens -/
abbrev isBl (c : Int) : Prop := c = 32 ∨ c = 10
abbrev isLe (c : Int) : Prop := 97 ≤ c ∧ c ≤ 122
abbrev isDi (c : Int) : Prop := 48 ≤ c ∧ c ≤ 57
def wl (z : Nat) : Int := ((sgB.getD z []).length : Nat)
def wc (z : Nat) (i : Int) : Int := (sgB.getD z []).getD i.toNat 0
theorem wl_bd {z : Nat} (h : z < 46) : 0 ≤ wl z ∧ wl z ≤ 8 := by have := sgB_bd h; unfold wl; omega
theorem wc_bd {z : Nat} {i : Int} (h : z < 46) (h0 : 0 ≤ i) (h1 : i < wl z) : 0 ≤ wc z i ∧ wc z i < 128 := sgB_ch h (by unfold wl at h1; omega)
/-- the bytes from a to b spell word z -/
def Spl (f : Nat → Int) (z : Nat) (a b : Int) : Prop := b - a = wl z ∧ ∀ i : Int, 0 ≤ i → i < wl z → wc z i = f (a + i).toNat
abbrev sameC (f : Nat → Int) (a q : Int) : Prop := (isLe (f q.toNat) ↔ isLe (f a.toNat)) ∧ (isDi (f q.toNat) ↔ isDi (f a.toNat))
/-- e is behind the run of bytes that begins at a -/
def RunE (f : Nat → Int) (n a e : Int) : Prop := (a < e ∧ e ≤ n) ∧ ((¬ isLe (f a.toNat) ∧ ¬ isDi (f a.toNat) ∧ e = a + 1) ∨ ((isLe (f a.toNat) ∨ isDi (f a.toNat)) ∧ (∀ q, a ≤ q → q < e → sameC f a q) ∧ (e = n ∨ ¬ sameC f a e)))
/-- the sign of the bytes from a to b -/
def SgP (f : Nat → Int) (a b v : Int) : Prop := (0 ≤ v ∧ v < 41) ∧ ((isDi (f a.toNat) ∧ ((3 < b - a ∧ v = 1) ∨ (b - a ≤ 3 ∧ v = 2))) ∨ (¬ isDi (f a.toNat) ∧ ((7 < b - a ∧ v = 1) ∨ (b - a ≤ 7 ∧ ∃ k : Int, Fst (fun z => Spl f z.toNat a b) 41 k ∧ ((0 ≤ k ∧ v = k) ∨ (k < 0 ∧ ((isLe (f a.toNat) ∧ v = 3) ∨ (¬ isLe (f a.toNat) ∧ v = 1))))))))
/-- the whole number that n bytes from a on are -/
def wh (f : Nat → Int) (a : Int) : Nat → Int
  | 0 => 0
  | n + 1 => 10 * wh f a n + f (a + n).toNat - 48
theorem wh_0 {f : Nat → Int} {a k acc : Int} (hk : k = 0) (ha : acc = 0) : acc = wh f a k.toNat := by subst hk; subst ha; rfl
theorem wh_step {f : Nat → Int} {a k k' acc acc' v : Int} (h0 : 0 ≤ k) (hk : k' = k + 1) (ha : acc = wh f a k.toNat) (hv : v = f (a + k).toNat) (hacc : acc' = 10 * acc + v - 48) : acc' = wh f a k'.toNat := by
  obtain ⟨n, rfl⟩ : ∃ n : Nat, k = n := ⟨k.toNat, by omega⟩
  subst hk
  have e : ((n : Int) + 1).toNat = n + 1 := by omega
  rw [e, hacc, ha, hv]; rfl
theorem run_step {f : Nat → Int} {a k k' : Int} (hk : k' = k + 1) (h : ∀ q, a ≤ q → q < k → sameC f a q) (hs : sameC f a k) : ∀ q, a ≤ q → q < k' → sameC f a q := fun q q0 q1 => by
  rcases Int.lt_or_eq_of_le (show q ≤ k by omega) with c | c
  · exact h q q0 c
  · rw [c]; exact hs
theorem run_0 {f : Nat → Int} {a k : Int} (hk : k = a + 1) : ∀ q, a ≤ q → q < k → sameC f a q := fun q q0 q1 => by
  rw [show q = a by omega]; exact ⟨Iff.rfl, Iff.rfl⟩
theorem spl_no {f : Nat → Int} {z : Nat} {a b k : Int} (h0 : 0 ≤ k) (h1 : k < wl z) (hn : wc z k ≠ f (a + k).toNat) : ¬ Spl f z a b := fun q => hn (q.2 k h0 h1)
theorem adt_fin {hi h1 h2 h3 h4 : HI} {s p x i1 i2 i3 n : Int} (w26 : h1 = hput hi 31 (updI (hi 31) i1.toNat s)) (w36 : h2 = hput h1 32 (updI (h1 32) i2.toNat p)) (w46 : h3 = hput h2 33 (updI (h2 33) i3.toNat x)) (w54 : h4 = hput h3 29 (updI (h3 29) 5 n)) (e1 : i1 = hi 29 5) (e2 : i2 = hi 29 5) (e3 : i3 = hi 29 5) (e4 : n = hi 29 5 + 1) : h4 31 = updI (hi 31) (hi 29 5).toNat s ∧ h4 32 = updI (hi 32) (hi 29 5).toNat p ∧ h4 33 = updI (hi 33) (hi 29 5).toNat x ∧ h4 29 = updI (hi 29) 5 (hi 29 5 + 1) := by
  rw [← e1]
  have d2 : i2 = i1 := by omega
  have d3 : i3 = i1 := by omega
  have d4 : n = i1 + 1 := by omega
  subst d2; subst d3; subst d4
  refine ⟨?_, ?_, ?_, ?_⟩
  · rw [w54, hput_ne _ _ (by decide), w46, hput_ne _ _ (by decide), w36, hput_ne _ _ (by decide), w26, hput_same]
  · rw [w54, hput_ne _ _ (by decide), w46, hput_ne _ _ (by decide), w36, hput_same, w26, hput_ne _ _ (by decide)]
  · rw [w54, hput_ne _ _ (by decide), w46, hput_same, w36, hput_ne _ _ (by decide), w26, hput_ne _ _ (by decide)]
  · rw [w54, hput_same, w46, hput_ne _ _ (by decide), w36, hput_ne _ _ (by decide), w26, hput_ne _ _ (by decide)]
abbrev kX6_byteAt : Kd := (cX6_byteAt, .code yX6_byteAt cX6_byteAt 2 (some .int) :: wsL_law0, rmL 1, RX6, (some .int), 2)
theorem ct_X6_byteAt : Ct kX6_byteAt yX6_byteAt (fun a hi Q => ∃ p : Int, a = [AR 30, AI p] ∧ (0 ≤ p ∧ p < 600) ∧ ∀ v : Int, (v = hi 30 p.toNat ∧ inR v) → Q (AI v) hi) := by
  refine Ct.of (ws' := _) (by decide +kernel) rfl rfl ?_
  intro a hi Q hT
  obtain ⟨p, rfl, hpre, hQ⟩ := hT
  refine ⟨Nat.le_of_ble_eq_true rfl, ?_⟩
  show Z kX6_byteAt Q 0 [(0, AR 30), (1, AI p)] [] hi
  refine z_iload_n (pc := 0) dX6_byteAt_0 rfl 1 rfl ?_
  refine z_if_lt (pc := 1) (tgt := 11) dX6_byteAt_1 (by decide) ⟨by omega, by omega⟩ (fun c1 => ?_) (fun c1 => ?_)
  · exact absurd c1 (by omega)
  · refine z_iload_n (pc := 4) dX6_byteAt_4 rfl 1 rfl ?_
    refine z_sipush (pc := 5) (v := 600) dX6_byteAt_5 (by decide +kernel) ?_
    refine z_icmp_lt (pc := 8) (tgt := 15) dX6_byteAt_8 (by decide) ⟨by omega, by omega⟩ ⟨by decide, by decide⟩ (fun c2 => ?_) (fun c2 => ?_)
    · refine z_aload_n (pc := 15) (x := 30) dX6_byteAt_15 rfl 0 rfl ?_
      refine z_getR (pc := 16) (pl := 29) (f := 0) (ci := 5) (C := RX6) (T := TX6) (N := 9) hu_X6 (by decide) rfl rfl (by decide) rfl (List.mem_cons_of_mem _ (iw3 _ (List.mem_of_getElem? (i := 13) rfl))) rfl dX6_byteAt_16 ?_
      refine z_iload_n (pc := 19) dX6_byteAt_19 rfl 1 rfl ?_
      refine z_iald (pc := 20) (pl := 30) (by decide) rfl (by decide) (by decide) (by omega) (by omega) dX6_byteAt_20 (fun v3 ev3 rv3 => ?_)
      refine z_iret (pc := 21) rfl dX6_byteAt_21 ?_
      exact hQ v3 (⟨by omega, by omega⟩)
    · exact absurd c2 (by omega)

abbrev kX6_isBlank : Kd := (cX6_isBlank, .code yX6_isBlank cX6_isBlank 1 (some .boolean) :: wsL_law0, rmL 1, RX6, (some .boolean), 1)
theorem ct_X6_isBlank : Ct kX6_isBlank yX6_isBlank (fun a hi Q => ∃ c : Int, a = [AI c] ∧ (inR c) ∧ ∀ v : Int, ((v = 1 ∧ isBl c) ∨ (v = 0 ∧ ¬ isBl c)) → Q (AI v) hi) := by
  refine Ct.of (ws' := _) (by decide +kernel) rfl rfl ?_
  intro a hi Q hT
  obtain ⟨c, rfl, hpre, hQ⟩ := hT
  refine ⟨Nat.le_of_ble_eq_true rfl, ?_⟩
  show Z kX6_isBlank Q 0 [(0, AI c)] [] hi
  refine z_iload_n (pc := 0) dX6_isBlank_0 rfl 0 rfl ?_
  refine z_bipush (pc := 1) (v := 32) dX6_isBlank_1 (by decide +kernel) ?_
  refine z_icmp_eq (pc := 3) (tgt := 12) dX6_isBlank_3 (by decide) ⟨by omega, by omega⟩ ⟨by decide, by decide⟩ (fun c1 => ?_) (fun c1 => ?_)
  · refine z_iconst (pc := 12) (v := 1) dX6_isBlank_12 rfl ?_
    refine z_goto (pc := 13) (tgt := 17) dX6_isBlank_13 (by decide) ?_
    refine z_zret (pc := 17) rfl (by decide) dX6_isBlank_17 ?_
    exact hQ 1 (by omega)
  · refine z_iload_n (pc := 6) dX6_isBlank_6 rfl 0 rfl ?_
    refine z_bipush (pc := 7) (v := 10) dX6_isBlank_7 (by decide +kernel) ?_
    refine z_icmp_ne (pc := 9) (tgt := 16) dX6_isBlank_9 (by decide) ⟨by omega, by omega⟩ ⟨by decide, by decide⟩ (fun c2 => ?_) (fun c2 => ?_)
    · refine z_iconst (pc := 16) (v := 0) dX6_isBlank_16 rfl ?_
      refine z_zret (pc := 17) rfl (by decide) dX6_isBlank_17 ?_
      exact hQ 0 (by omega)
    · refine z_iconst (pc := 12) (v := 1) dX6_isBlank_12 rfl ?_
      refine z_goto (pc := 13) (tgt := 17) dX6_isBlank_13 (by decide) ?_
      refine z_zret (pc := 17) rfl (by decide) dX6_isBlank_17 ?_
      exact hQ 1 (by omega)

abbrev kX6_isLetter : Kd := (cX6_isLetter, .code yX6_isLetter cX6_isLetter 1 (some .boolean) :: wsL_law0, rmL 1, RX6, (some .boolean), 1)
theorem ct_X6_isLetter : Ct kX6_isLetter yX6_isLetter (fun a hi Q => ∃ c : Int, a = [AI c] ∧ (inR c) ∧ ∀ v : Int, ((v = 1 ∧ isLe c) ∨ (v = 0 ∧ ¬ isLe c)) → Q (AI v) hi) := by
  refine Ct.of (ws' := _) (by decide +kernel) rfl rfl ?_
  intro a hi Q hT
  obtain ⟨c, rfl, hpre, hQ⟩ := hT
  refine ⟨Nat.le_of_ble_eq_true rfl, ?_⟩
  show Z kX6_isLetter Q 0 [(0, AI c)] [] hi
  refine z_iload_n (pc := 0) dX6_isLetter_0 rfl 0 rfl ?_
  refine z_bipush (pc := 1) (v := 97) dX6_isLetter_1 (by decide +kernel) ?_
  refine z_icmp_lt (pc := 3) (tgt := 16) dX6_isLetter_3 (by decide) ⟨by omega, by omega⟩ ⟨by decide, by decide⟩ (fun c1 => ?_) (fun c1 => ?_)
  · refine z_iconst (pc := 16) (v := 0) dX6_isLetter_16 rfl ?_
    refine z_zret (pc := 17) rfl (by decide) dX6_isLetter_17 ?_
    exact hQ 0 (by omega)
  · refine z_iload_n (pc := 6) dX6_isLetter_6 rfl 0 rfl ?_
    refine z_bipush (pc := 7) (v := 122) dX6_isLetter_7 (by decide +kernel) ?_
    refine z_icmp_gt (pc := 9) (tgt := 16) dX6_isLetter_9 (by decide) ⟨by omega, by omega⟩ ⟨by decide, by decide⟩ (fun c2 => ?_) (fun c2 => ?_)
    · refine z_iconst (pc := 16) (v := 0) dX6_isLetter_16 rfl ?_
      refine z_zret (pc := 17) rfl (by decide) dX6_isLetter_17 ?_
      exact hQ 0 (by omega)
    · refine z_iconst (pc := 12) (v := 1) dX6_isLetter_12 rfl ?_
      refine z_goto (pc := 13) (tgt := 17) dX6_isLetter_13 (by decide) ?_
      refine z_zret (pc := 17) rfl (by decide) dX6_isLetter_17 ?_
      exact hQ 1 (by omega)

abbrev kX6_isDigit : Kd := (cX6_isDigit, .code yX6_isDigit cX6_isDigit 1 (some .boolean) :: wsL_law0, rmL 1, RX6, (some .boolean), 1)
theorem ct_X6_isDigit : Ct kX6_isDigit yX6_isDigit (fun a hi Q => ∃ c : Int, a = [AI c] ∧ (inR c) ∧ ∀ v : Int, ((v = 1 ∧ isDi c) ∨ (v = 0 ∧ ¬ isDi c)) → Q (AI v) hi) := by
  refine Ct.of (ws' := _) (by decide +kernel) rfl rfl ?_
  intro a hi Q hT
  obtain ⟨c, rfl, hpre, hQ⟩ := hT
  refine ⟨Nat.le_of_ble_eq_true rfl, ?_⟩
  show Z kX6_isDigit Q 0 [(0, AI c)] [] hi
  refine z_iload_n (pc := 0) dX6_isDigit_0 rfl 0 rfl ?_
  refine z_bipush (pc := 1) (v := 48) dX6_isDigit_1 (by decide +kernel) ?_
  refine z_icmp_lt (pc := 3) (tgt := 16) dX6_isDigit_3 (by decide) ⟨by omega, by omega⟩ ⟨by decide, by decide⟩ (fun c1 => ?_) (fun c1 => ?_)
  · refine z_iconst (pc := 16) (v := 0) dX6_isDigit_16 rfl ?_
    refine z_zret (pc := 17) rfl (by decide) dX6_isDigit_17 ?_
    exact hQ 0 (by omega)
  · refine z_iload_n (pc := 6) dX6_isDigit_6 rfl 0 rfl ?_
    refine z_bipush (pc := 7) (v := 57) dX6_isDigit_7 (by decide +kernel) ?_
    refine z_icmp_gt (pc := 9) (tgt := 16) dX6_isDigit_9 (by decide) ⟨by omega, by omega⟩ ⟨by decide, by decide⟩ (fun c2 => ?_) (fun c2 => ?_)
    · refine z_iconst (pc := 16) (v := 0) dX6_isDigit_16 rfl ?_
      refine z_zret (pc := 17) rfl (by decide) dX6_isDigit_17 ?_
      exact hQ 0 (by omega)
    · refine z_iconst (pc := 12) (v := 1) dX6_isDigit_12 rfl ?_
      refine z_goto (pc := 13) (tgt := 17) dX6_isDigit_13 (by decide) ?_
      refine z_zret (pc := 17) rfl (by decide) dX6_isDigit_17 ?_
      exact hQ 1 (by omega)

abbrev kX6_isSpelt : Kd := (cX6_isSpelt, .code yX6_isSpelt cX6_isSpelt 5 (some .boolean) :: wsL_law0, rmL 6, RX6, (some .boolean), 5)
theorem ct_X6_isSpelt : Ct kX6_isSpelt yX6_isSpelt (fun a hi Q => ∃ z : Nat, ∃ a0 : Int, ∃ b0 : Int, a = [AR 30, AR (201 + z), AI a0, AI b0] ∧ (z < 46 ∧ (0 ≤ a0 ∧ a0 ≤ b0) ∧ b0 ≤ 600) ∧ ∀ v : Int, ((v = 1 ∧ Spl (hi 30) z a0 b0) ∨ (v = 0 ∧ ¬ Spl (hi 30) z a0 b0)) → Q (AI v) hi) := by
  refine Ct.of (ws' := _) (by decide +kernel) rfl rfl ?_
  intro a hi Q hT
  obtain ⟨z, a0, b0, rfl, hpre, hQ⟩ := hT
  refine ⟨Nat.le_of_ble_eq_true rfl, ?_⟩
  show Z kX6_isSpelt Q 0 [(0, AR 30), (1, AR (201 + z)), (2, AI a0), (3, AI b0)] [] hi
  refine z_aload_n (pc := 0) (x := (201 + z)) dX6_isSpelt_0 rfl 1 rfl ?_
  refine z_ifnull (pc := 1) (tgt := 14) dX6_isSpelt_1 (by decide) (by omega) ?_
  refine z_aload_n (pc := 4) (x := (201 + z)) dX6_isSpelt_4 rfl 1 rfl ?_
  refine z_callVO (pc := 5) (kc := kJ0_length_8abf5) (n := 0) (z := z) (As := []) (stk := []) ct_J0_length_8abf5 (gdV rfl rfl (iw19 _ (List.mem_of_getElem? (i := 20) rfl)) (iw19 _ (List.mem_of_getElem? (i := 21) rfl)) (iw19 _ (List.mem_of_getElem? (i := 22) rfl)) (iw19 _ (List.mem_of_getElem? (i := 23) rfl)) (iw20 _ (List.mem_of_getElem? (i := 0) rfl))) rfl ⟨rfl, rfl⟩ (by decide +kernel) ⟨by decide, by decide⟩ (by omega) dX6_isSpelt_5 rfl rfl (Nat.le_of_ble_eq_true rfl) ?_
  refine ⟨_, rfl, by omega, fun v1 ev1 => ?_⟩
  replace ev1 : v1 = wl z := ev1
  have bwv1 := wl_bd (z := z) (by omega)
  refine z_iload_n (pc := 8) dX6_isSpelt_8 rfl 3 rfl ?_
  refine z_iload_n (pc := 9) dX6_isSpelt_9 rfl 2 rfl ?_
  refine z_isub (pc := 10) dX6_isSpelt_10 (fun v2 ev2 => ?_)
  refine z_icmp_eq (pc := 11) (tgt := 16) dX6_isSpelt_11 (by decide) ⟨by omega, by omega⟩ ⟨by omega, by omega⟩ (fun c3 => ?_) (fun c3 => ?_)
  · refine z_iconst (pc := 16) (v := 0) dX6_isSpelt_16 rfl ?_
    refine z_istore (pc := 17) (lv' := [(4, AI 0), (0, AR 30), (1, AR (201 + z)), (2, AI a0), (3, AI b0)]) dX6_isSpelt_17 (by decide) rfl ?_
    have bz := wl_bd (z := z) (by omega)
    have J19 : ∀ (N : Nat) (i : Int), (0 ≤ i ∧ i ≤ wl z) → (∀ q : Int, 0 ≤ q → q < i → wc z q = hi 30 (a0 + q).toNat) → ((wl z - i).toNat) < N → Z kX6_isSpelt Q 19 [(4, AI i), (0, AR 30), (1, AR (201 + z)), (2, AI a0), (3, AI b0)] [] hi := by
      intro N
      induction N with
      | zero => intro i _ _ _; exact absurd (by assumption) (Nat.not_lt_zero _)
      | succ N ih19 =>
        intro i i0 i1 hm19
        refine z_iload (pc := 19) dX6_isSpelt_19 0 rfl ?_
        refine z_aload_n (pc := 21) (x := (201 + z)) dX6_isSpelt_21 rfl 2 rfl ?_
        refine z_callVO (pc := 22) (kc := kJ0_length_8abf5) (n := 0) (z := z) (As := []) (stk := [AI i]) ct_J0_length_8abf5 (gdV rfl rfl (iw19 _ (List.mem_of_getElem? (i := 20) rfl)) (iw19 _ (List.mem_of_getElem? (i := 21) rfl)) (iw19 _ (List.mem_of_getElem? (i := 22) rfl)) (iw19 _ (List.mem_of_getElem? (i := 23) rfl)) (iw20 _ (List.mem_of_getElem? (i := 0) rfl))) rfl ⟨rfl, rfl⟩ (by decide +kernel) ⟨by decide, by decide⟩ (by omega) dX6_isSpelt_22 rfl rfl (Nat.le_of_ble_eq_true rfl) ?_
        refine ⟨_, rfl, by omega, fun v4 ev4 => ?_⟩
        replace ev4 : v4 = wl z := ev4
        have bwv4 := wl_bd (z := z) (by omega)
        refine z_icmp_ge (pc := 25) (tgt := 53) dX6_isSpelt_25 (by decide) ⟨by omega, by omega⟩ ⟨by omega, by omega⟩ (fun c5 => ?_) (fun c5 => ?_)
        · refine z_iconst (pc := 53) (v := 1) dX6_isSpelt_53 rfl ?_
          refine z_zret (pc := 54) rfl (by decide) dX6_isSpelt_54 ?_
          exact hQ 1 (by first | exact Or.inr ⟨rfl, fun q => by have := q.1; omega⟩ | exact Or.inl ⟨rfl, by omega, fun q q0 q1 => i1 q q0 (by omega)⟩ | exact Or.inr ⟨rfl, spl_no (k := i) (by omega) (by omega) (by rw [← w31, ← w39]; omega)⟩)
        · refine z_aload_n (pc := 28) (x := (201 + z)) dX6_isSpelt_28 rfl 2 rfl ?_
          refine z_iload (pc := 29) dX6_isSpelt_29 0 rfl ?_
          refine z_callVO (pc := 31) (kc := kJ0_charAt_5068e) (n := 1) (z := z) (As := [AI i]) (stk := []) ct_J0_charAt_5068e (gdV rfl rfl (iw20 _ (List.mem_of_getElem? (i := 8) rfl)) (iw20 _ (List.mem_of_getElem? (i := 9) rfl)) (iw20 _ (List.mem_of_getElem? (i := 10) rfl)) (iw19 _ (List.mem_of_getElem? (i := 23) rfl)) (iw20 _ (List.mem_of_getElem? (i := 11) rfl))) rfl ⟨rfl, rfl⟩ (by decide +kernel) ⟨by decide, by decide⟩ (by omega) dX6_isSpelt_31 rfl rfl (Nat.le_of_ble_eq_true rfl) ?_
          refine ⟨_, _, rfl, ⟨by omega, by omega, (show i < wl z by omega)⟩, fun v6 ev6 => ?_⟩
          have w31 : v6 = wc z i := ev6
          have cz := wc_bd (z := z) (i := i) (by omega) (by omega) (by omega)
          refine z_aload_n (pc := 34) (x := 30) dX6_isSpelt_34 rfl 1 rfl ?_
          refine z_iload_n (pc := 35) dX6_isSpelt_35 rfl 3 rfl ?_
          refine z_iload (pc := 36) dX6_isSpelt_36 0 rfl ?_
          refine z_iadd (pc := 38) dX6_isSpelt_38 (fun v7 ev7 => ?_)
          refine z_callV (pc := 39) (kc := kX6_byteAt) (n := 1) (pl := 29) (ci := 5) (C := RX6) (As := [AI v7]) (stk := [AI v6]) ct_X6_byteAt (gdV rfl rfl (iw18 _ (List.mem_of_getElem? (i := 17) rfl)) (iw18 _ (List.mem_of_getElem? (i := 18) rfl)) (iw18 _ (List.mem_of_getElem? (i := 19) rfl)) (iw2 _ (List.mem_of_getElem? (i := 4) rfl)) (iw18 _ (List.mem_of_getElem? (i := 20) rfl))) rfl ⟨rfl, rfl⟩ (by decide +kernel) ⟨by decide, by decide⟩ (by decide) rfl rfl dX6_isSpelt_39 rfl rfl (Nat.le_of_ble_eq_true rfl) ?_
          refine ⟨_, rfl, by omega, fun v8 ev8 => ?_⟩
          have w39 := ev8.1
          rw [show v7 = a0 + i by omega] at w39
          refine z_icmp_eq (pc := 42) (tgt := 47) dX6_isSpelt_42 (by decide) ⟨by omega, by omega⟩ ⟨by omega, by omega⟩ (fun c9 => ?_) (fun c9 => ?_)
          · refine z_iinc (pc := 47) (j := 0) (w := fun q => (4, AI q) :: [(0, AR 30), (1, AR (201 + z)), (2, AI a0), (3, AI b0)]) dX6_isSpelt_47 rfl (by decide) (fun _ => rfl) (fun v10 ev10 => ?_)
            refine z_goto (pc := 50) (tgt := 19) dX6_isSpelt_50 (by decide) ?_
            exact ih19 v10 (by omega) (fun q q0 q1 => by rcases Int.lt_or_eq_of_le (show q ≤ i by omega) with c | c; exact i1 q q0 c; rw [c, ← w31, ← w39]; omega) (by omega)
          · refine z_iconst (pc := 45) (v := 0) dX6_isSpelt_45 rfl ?_
            refine z_zret (pc := 46) rfl (by decide) dX6_isSpelt_46 ?_
            exact hQ 0 (by first | exact Or.inr ⟨rfl, fun q => by have := q.1; omega⟩ | exact Or.inl ⟨rfl, by omega, fun q q0 q1 => i1 q q0 (by omega)⟩ | exact Or.inr ⟨rfl, spl_no (k := i) (by omega) (by omega) (by rw [← w31, ← w39]; omega)⟩)
    exact J19 _ 0 (by omega) (fun q q0 q1 => by omega) (Nat.lt_succ_self _)
  · refine z_iconst (pc := 14) (v := 0) dX6_isSpelt_14 rfl ?_
    refine z_zret (pc := 15) rfl (by decide) dX6_isSpelt_15 ?_
    exact hQ 0 (by first | exact Or.inr ⟨rfl, fun q => by have := q.1; omega⟩ | exact Or.inl ⟨rfl, by omega, fun q q0 q1 => i1 q q0 (by omega)⟩ | exact Or.inr ⟨rfl, spl_no (k := i) (by omega) (by omega) (by rw [← w31, ← w39]; omega)⟩)

abbrev kX6_signOf : Kd := (cX6_signOf, .code yX6_signOf cX6_signOf 6 (some (.object "LateSet$Sign")) :: wsL_law0, rmL 7, RX6, (some (.object "LateSet$Sign")), 6)
theorem ct_X6_signOf : Ct kX6_signOf yX6_signOf (fun a hi Q => ∃ a0 : Int, ∃ b0 : Int, a = [AR 30, AI a0, AI b0] ∧ ((0 ≤ a0 ∧ a0 < b0) ∧ b0 ≤ 600) ∧ ∀ v : Int, (SgP (hi 30) a0 b0 v) → Q (AR (ec v)) hi) := by
  refine Ct.of (ws' := _) (by decide +kernel) rfl rfl ?_
  intro a hi Q hT
  obtain ⟨a0, b0, rfl, hpre, hQ⟩ := hT
  refine ⟨Nat.le_of_ble_eq_true rfl, ?_⟩
  show Z kX6_signOf Q 0 [(0, AR 30), (1, AI a0), (2, AI b0)] [] hi
  refine z_aload_n (pc := 0) (x := 30) dX6_signOf_0 rfl 0 rfl ?_
  refine z_iload_n (pc := 1) dX6_signOf_1 rfl 1 rfl ?_
  refine z_callV (pc := 2) (kc := kX6_byteAt) (n := 1) (pl := 29) (ci := 5) (C := RX6) (As := [AI a0]) (stk := []) ct_X6_byteAt (gdV rfl rfl (iw18 _ (List.mem_of_getElem? (i := 17) rfl)) (iw18 _ (List.mem_of_getElem? (i := 18) rfl)) (iw18 _ (List.mem_of_getElem? (i := 19) rfl)) (iw2 _ (List.mem_of_getElem? (i := 4) rfl)) (iw18 _ (List.mem_of_getElem? (i := 20) rfl))) rfl ⟨rfl, rfl⟩ (by decide +kernel) ⟨by decide, by decide⟩ (by decide) rfl rfl dX6_signOf_2 rfl rfl (Nat.le_of_ble_eq_true rfl) ?_
  refine ⟨_, rfl, by omega, fun v1 ev1 => ?_⟩
  refine z_istore_n (pc := 5) (lv' := [(3, AI v1), (0, AR 30), (1, AI a0), (2, AI b0)]) dX6_signOf_5 rfl (by decide) rfl ?_
  refine z_iload_n (pc := 6) dX6_signOf_6 rfl 0 rfl ?_
  refine z_callS (pc := 7) (kc := kX6_isDigit) (n := 1) (As := [AI v1]) (stk := []) ct_X6_isDigit (gdS rfl rfl (iw19 _ (List.mem_of_getElem? (i := 7) rfl)) (iw19 _ (List.mem_of_getElem? (i := 8) rfl)) (iw2 _ (List.mem_of_getElem? (i := 4) rfl)) (iw19 _ (List.mem_of_getElem? (i := 9) rfl))) rfl ⟨rfl, rfl⟩ (by decide +kernel) ⟨by decide, by decide⟩ dX6_signOf_7 rfl rfl (Nat.le_of_ble_eq_true rfl) ?_
  refine ⟨_, rfl, by omega, fun v2 ev2 => ?_⟩
  refine z_if_eq (pc := 10) (tgt := 30) dX6_signOf_10 (by decide) ⟨by omega, by omega⟩ (fun c3 => ?_) (fun c3 => ?_)
  · refine z_iload_n (pc := 30) dX6_signOf_30 rfl 3 rfl ?_
    refine z_iload_n (pc := 31) dX6_signOf_31 rfl 2 rfl ?_
    refine z_isub (pc := 32) dX6_signOf_32 (fun v4 ev4 => ?_)
    refine z_bipush (pc := 33) (v := 7) dX6_signOf_33 (by decide +kernel) ?_
    refine z_icmp_le (pc := 35) (tgt := 42) dX6_signOf_35 (by decide) ⟨by omega, by omega⟩ ⟨by decide, by decide⟩ (fun c5 => ?_) (fun c5 => ?_)
    · refine z_iconst (pc := 42) (v := 0) dX6_signOf_42 rfl ?_
      refine z_istore (pc := 43) (lv' := [(4, AI 0), (3, AI v1), (0, AR 30), (1, AI a0), (2, AI b0)]) dX6_signOf_43 (by decide) rfl ?_
      have J45 : ∀ (N : Nat) (k : Int), (0 ≤ k ∧ k ≤ 41) → (∀ z : Int, 0 ≤ z → z < k → ¬ Spl (hi 30) z.toNat a0 b0) → ((41 - k).toNat) < N → Z kX6_signOf Q 45 [(4, AI k), (3, AI v1), (0, AR 30), (1, AI a0), (2, AI b0)] [] hi := by
        intro N
        induction N with
        | zero => intro k _ _ _; exact absurd (by assumption) (Nat.not_lt_zero _)
        | succ N ih45 =>
          intro k i0 i1 hm45
          refine z_iload (pc := 45) dX6_signOf_45 0 rfl ?_
          refine z_getstSN (pc := 47) rfl dX6_signOf_47 ?_
          refine z_lenS (pc := 50) dX6_signOf_50 ?_
          refine z_icmp_ge (pc := 51) (tgt := 90) dX6_signOf_51 (by decide) ⟨by omega, by omega⟩ ⟨by decide, by decide⟩ (fun c6 => ?_) (fun c6 => ?_)
          · refine z_iload_n (pc := 90) dX6_signOf_90 rfl 1 rfl ?_
            refine z_callS (pc := 91) (kc := kX6_isLetter) (n := 1) (As := [AI v1]) (stk := []) ct_X6_isLetter (gdS rfl rfl (iw19 _ (List.mem_of_getElem? (i := 4) rfl)) (iw19 _ (List.mem_of_getElem? (i := 5) rfl)) (iw2 _ (List.mem_of_getElem? (i := 4) rfl)) (iw19 _ (List.mem_of_getElem? (i := 6) rfl))) rfl ⟨rfl, rfl⟩ (by decide +kernel) ⟨by decide, by decide⟩ dX6_signOf_91 rfl rfl (Nat.le_of_ble_eq_true rfl) ?_
            refine ⟨_, rfl, by omega, fun v7 ev7 => ?_⟩
            refine z_if_eq (pc := 94) (tgt := 103) dX6_signOf_94 (by decide) ⟨by omega, by omega⟩ (fun c8 => ?_) (fun c8 => ?_)
            · refine z_getstE (pc := 103) (i := 1) (z := 1) (by decide) rfl (List.mem_cons_of_mem _ (iw18 _ (List.mem_of_getElem? (i := 15) rfl))) dX6_signOf_103 ?_
              refine z_aret (pc := 106) rfl dX6_signOf_106 ?_
              exact hQ 1 (by first | exact ⟨by omega, Or.inl ⟨by omega, by omega⟩⟩ | exact ⟨by omega, Or.inr ⟨by omega, Or.inl ⟨by omega, rfl⟩⟩⟩ | exact ⟨by omega, Or.inr ⟨by omega, Or.inr ⟨by omega, k, Or.inl ⟨by omega, by omega, bT w75 (by omega), i1⟩, Or.inl ⟨by omega, rfl⟩⟩⟩⟩ | exact ⟨by omega, Or.inr ⟨by omega, Or.inr ⟨by omega, -1, Or.inr ⟨rfl, fun z z0 z1 => i1 z z0 (by omega)⟩, Or.inr ⟨by omega, by omega⟩⟩⟩⟩)
            · refine z_getstE (pc := 97) (i := 3) (z := 3) (by decide) rfl (List.mem_cons_of_mem _ (iw19 _ (List.mem_of_getElem? (i := 15) rfl))) dX6_signOf_97 ?_
              refine z_goto (pc := 100) (tgt := 106) dX6_signOf_100 (by decide) ?_
              refine z_aret (pc := 106) rfl dX6_signOf_106 ?_
              exact hQ 3 (by first | exact ⟨by omega, Or.inl ⟨by omega, by omega⟩⟩ | exact ⟨by omega, Or.inr ⟨by omega, Or.inl ⟨by omega, rfl⟩⟩⟩ | exact ⟨by omega, Or.inr ⟨by omega, Or.inr ⟨by omega, k, Or.inl ⟨by omega, by omega, bT w75 (by omega), i1⟩, Or.inl ⟨by omega, rfl⟩⟩⟩⟩ | exact ⟨by omega, Or.inr ⟨by omega, Or.inr ⟨by omega, -1, Or.inr ⟨rfl, fun z z0 z1 => i1 z z0 (by omega)⟩, Or.inr ⟨by omega, by omega⟩⟩⟩⟩)
          · refine z_getstSN (pc := 54) rfl dX6_signOf_54 ?_
            refine z_iload (pc := 57) dX6_signOf_57 0 rfl ?_
            refine z_aldS (pc := 59) (by omega) dX6_signOf_59 ?_
            refine z_astore (pc := 60) (lv' := [(5, AR (ec k)), (4, AI k), (3, AI v1), (0, AR 30), (1, AI a0), (2, AI b0)]) dX6_signOf_60 (by decide) (by unfold ec; split <;> omega) rfl ?_
            refine z_aload (pc := 62) (x := (ec k)) dX6_signOf_62 0 rfl ?_
            refine z_ifnullE (pc := 64) (tgt := 84) dX6_signOf_64 (by decide) (by omega) ?_
            refine z_aload_n (pc := 67) (x := 30) dX6_signOf_67 rfl 3 rfl ?_
            refine z_aload (pc := 68) (x := (ec k)) dX6_signOf_68 0 rfl ?_
            refine z_getw (pc := 70) (by omega) (List.mem_cons_of_mem _ (iw19 _ (List.mem_of_getElem? (i := 14) rfl))) dX6_signOf_70 ?_
            refine z_iload_n (pc := 73) dX6_signOf_73 rfl 4 rfl ?_
            refine z_iload_n (pc := 74) dX6_signOf_74 rfl 5 rfl ?_
            refine z_callV (pc := 75) (kc := kX6_isSpelt) (n := 3) (pl := 29) (ci := 5) (C := RX6) (As := [AR (201 + k.toNat), AI a0, AI b0]) (stk := []) ct_X6_isSpelt (gdV rfl rfl (iw19 _ (List.mem_of_getElem? (i := 16) rfl)) (iw19 _ (List.mem_of_getElem? (i := 17) rfl)) (iw19 _ (List.mem_of_getElem? (i := 18) rfl)) (iw2 _ (List.mem_of_getElem? (i := 4) rfl)) (iw19 _ (List.mem_of_getElem? (i := 19) rfl))) rfl ⟨rfl, rfl⟩ (by decide +kernel) ⟨by decide, by decide⟩ (by decide) rfl rfl dX6_signOf_75 rfl rfl (Nat.le_of_ble_eq_true rfl) ?_
            refine ⟨_, _, _, rfl, ⟨by omega, by omega, by omega⟩, fun v10 ev10 => ?_⟩
            have w75 := ev10
            refine z_if_eq (pc := 78) (tgt := 84) dX6_signOf_78 (by decide) ⟨by omega, by omega⟩ (fun c11 => ?_) (fun c11 => ?_)
            · refine z_iinc (pc := 84) (j := 1) (w := fun q => (4, AI q) :: [(5, AR (ec k)), (3, AI v1), (0, AR 30), (1, AI a0), (2, AI b0)]) dX6_signOf_84 rfl (by decide) (fun _ => rfl) (fun v12 ev12 => ?_)
              refine z_goto (pc := 87) (tgt := 45) dX6_signOf_87 (by decide) ?_
              refine z_sub (lv' := [(4, AI v12), (3, AI v1), (0, AR 30), (1, AI a0), (2, AI b0)]) [0, 2, 3, 4, 5] rfl ?_
              exact ih45 v12 (by omega) (no_step i1 (bF w75 (by omega)) (by omega)) (by omega)
            · refine z_aload (pc := 81) (x := (ec k)) dX6_signOf_81 0 rfl ?_
              refine z_aret (pc := 83) rfl dX6_signOf_83 ?_
              exact hQ k (by first | exact ⟨by omega, Or.inl ⟨by omega, by omega⟩⟩ | exact ⟨by omega, Or.inr ⟨by omega, Or.inl ⟨by omega, rfl⟩⟩⟩ | exact ⟨by omega, Or.inr ⟨by omega, Or.inr ⟨by omega, k, Or.inl ⟨by omega, by omega, bT w75 (by omega), i1⟩, Or.inl ⟨by omega, rfl⟩⟩⟩⟩ | exact ⟨by omega, Or.inr ⟨by omega, Or.inr ⟨by omega, -1, Or.inr ⟨rfl, fun z z0 z1 => i1 z z0 (by omega)⟩, Or.inr ⟨by omega, by omega⟩⟩⟩⟩)
      exact J45 _ 0 (by omega) (no_0 rfl) (Nat.lt_succ_self _)
    · refine z_getstE (pc := 38) (i := 1) (z := 1) (by decide) rfl (List.mem_cons_of_mem _ (iw18 _ (List.mem_of_getElem? (i := 15) rfl))) dX6_signOf_38 ?_
      refine z_aret (pc := 41) rfl dX6_signOf_41 ?_
      exact hQ 1 (by first | exact ⟨by omega, Or.inl ⟨by omega, by omega⟩⟩ | exact ⟨by omega, Or.inr ⟨by omega, Or.inl ⟨by omega, rfl⟩⟩⟩ | exact ⟨by omega, Or.inr ⟨by omega, Or.inr ⟨by omega, k, Or.inl ⟨by omega, by omega, bT w75 (by omega), i1⟩, Or.inl ⟨by omega, rfl⟩⟩⟩⟩ | exact ⟨by omega, Or.inr ⟨by omega, Or.inr ⟨by omega, -1, Or.inr ⟨rfl, fun z z0 z1 => i1 z z0 (by omega)⟩, Or.inr ⟨by omega, by omega⟩⟩⟩⟩)
  · refine z_iload_n (pc := 13) dX6_signOf_13 rfl 3 rfl ?_
    refine z_iload_n (pc := 14) dX6_signOf_14 rfl 2 rfl ?_
    refine z_isub (pc := 15) dX6_signOf_15 (fun v13 ev13 => ?_)
    refine z_iconst (pc := 16) (v := 3) dX6_signOf_16 rfl ?_
    refine z_icmp_le (pc := 17) (tgt := 26) dX6_signOf_17 (by decide) ⟨by omega, by omega⟩ ⟨by decide, by decide⟩ (fun c14 => ?_) (fun c14 => ?_)
    · refine z_getstE (pc := 26) (i := 2) (z := 2) (by decide) rfl (List.mem_cons_of_mem _ (iw18 _ (List.mem_of_getElem? (i := 14) rfl))) dX6_signOf_26 ?_
      refine z_aret (pc := 29) rfl dX6_signOf_29 ?_
      exact hQ 2 (by first | exact ⟨by omega, Or.inl ⟨by omega, by omega⟩⟩ | exact ⟨by omega, Or.inr ⟨by omega, Or.inl ⟨by omega, rfl⟩⟩⟩ | exact ⟨by omega, Or.inr ⟨by omega, Or.inr ⟨by omega, k, Or.inl ⟨by omega, by omega, bT w75 (by omega), i1⟩, Or.inl ⟨by omega, rfl⟩⟩⟩⟩ | exact ⟨by omega, Or.inr ⟨by omega, Or.inr ⟨by omega, -1, Or.inr ⟨rfl, fun z z0 z1 => i1 z z0 (by omega)⟩, Or.inr ⟨by omega, by omega⟩⟩⟩⟩)
    · refine z_getstE (pc := 20) (i := 1) (z := 1) (by decide) rfl (List.mem_cons_of_mem _ (iw18 _ (List.mem_of_getElem? (i := 15) rfl))) dX6_signOf_20 ?_
      refine z_goto (pc := 23) (tgt := 29) dX6_signOf_23 (by decide) ?_
      refine z_aret (pc := 29) rfl dX6_signOf_29 ?_
      exact hQ 1 (by first | exact ⟨by omega, Or.inl ⟨by omega, by omega⟩⟩ | exact ⟨by omega, Or.inr ⟨by omega, Or.inl ⟨by omega, rfl⟩⟩⟩ | exact ⟨by omega, Or.inr ⟨by omega, Or.inr ⟨by omega, k, Or.inl ⟨by omega, by omega, bT w75 (by omega), i1⟩, Or.inl ⟨by omega, rfl⟩⟩⟩⟩ | exact ⟨by omega, Or.inr ⟨by omega, Or.inr ⟨by omega, -1, Or.inr ⟨rfl, fun z z0 z1 => i1 z z0 (by omega)⟩, Or.inr ⟨by omega, by omega⟩⟩⟩⟩)

abbrev kX6_wholeOf : Kd := (cX6_wholeOf, .code yX6_wholeOf cX6_wholeOf 5 (some .int) :: wsL_law0, rmL 2, RX6, (some .int), 5)
theorem ct_X6_wholeOf : Ct kX6_wholeOf yX6_wholeOf (fun a hi Q => ∃ a0 : Int, ∃ b0 : Int, a = [AR 30, AI a0, AI b0] ∧ ((0 ≤ a0 ∧ a0 < b0) ∧ b0 ≤ 600) ∧ ∀ v : Int, (v = wh (hi 30) a0 (b0 - a0).toNat) → Q (AI v) hi) := by
  refine Ct.of (ws' := _) (by decide +kernel) rfl rfl ?_
  intro a hi Q hT
  obtain ⟨a0, b0, rfl, hpre, hQ⟩ := hT
  refine ⟨Nat.le_of_ble_eq_true rfl, ?_⟩
  show Z kX6_wholeOf Q 0 [(0, AR 30), (1, AI a0), (2, AI b0)] [] hi
  refine z_iconst (pc := 0) (v := 0) dX6_wholeOf_0 rfl ?_
  refine z_istore_n (pc := 1) (lv' := [(3, AI 0), (0, AR 30), (1, AI a0), (2, AI b0)]) dX6_wholeOf_1 rfl (by decide) rfl ?_
  refine z_iload_n (pc := 2) dX6_wholeOf_2 rfl 2 rfl ?_
  refine z_istore (pc := 3) (lv' := [(4, AI a0), (3, AI 0), (0, AR 30), (1, AI a0), (2, AI b0)]) dX6_wholeOf_3 (by decide) rfl ?_
  have J5 : ∀ (N : Nat) (k acc : Int), (a0 ≤ k ∧ k ≤ b0) → (acc = wh (hi 30) a0 (k - a0).toNat) → ((b0 - k).toNat) < N → Z kX6_wholeOf Q 5 [(4, AI k), (3, AI acc), (0, AR 30), (1, AI a0), (2, AI b0)] [] hi := by
    intro N
    induction N with
    | zero => intro k acc _ _ _; exact absurd (by assumption) (Nat.not_lt_zero _)
    | succ N ih5 =>
      intro k acc i0 i1 hm5
      refine z_iload (pc := 5) dX6_wholeOf_5 0 rfl ?_
      refine z_iload_n (pc := 7) dX6_wholeOf_7 rfl 4 rfl ?_
      refine z_icmp_ge (pc := 8) (tgt := 32) dX6_wholeOf_8 (by decide) ⟨by omega, by omega⟩ ⟨by omega, by omega⟩ (fun c1 => ?_) (fun c1 => ?_)
      · refine z_iload_n (pc := 32) dX6_wholeOf_32 rfl 1 rfl ?_
        refine z_iret (pc := 33) rfl dX6_wholeOf_33 ?_
        exact hQ acc (by rw [i1, show k = b0 by omega])
      · refine z_bipush (pc := 11) (v := 10) dX6_wholeOf_11 (by decide +kernel) ?_
        refine z_iload_n (pc := 13) dX6_wholeOf_13 rfl 1 rfl ?_
        refine z_imul (pc := 14) dX6_wholeOf_14 (fun v2 ev2 => ?_)
        refine z_aload_n (pc := 15) (x := 30) dX6_wholeOf_15 rfl 2 rfl ?_
        refine z_iload (pc := 16) dX6_wholeOf_16 0 rfl ?_
        refine z_callV (pc := 18) (kc := kX6_byteAt) (n := 1) (pl := 29) (ci := 5) (C := RX6) (As := [AI k]) (stk := [AI v2]) ct_X6_byteAt (gdV rfl rfl (iw18 _ (List.mem_of_getElem? (i := 17) rfl)) (iw18 _ (List.mem_of_getElem? (i := 18) rfl)) (iw18 _ (List.mem_of_getElem? (i := 19) rfl)) (iw2 _ (List.mem_of_getElem? (i := 4) rfl)) (iw18 _ (List.mem_of_getElem? (i := 20) rfl))) rfl ⟨rfl, rfl⟩ (by decide +kernel) ⟨by decide, by decide⟩ (by decide) rfl rfl dX6_wholeOf_18 rfl rfl (Nat.le_of_ble_eq_true rfl) ?_
        refine ⟨_, rfl, by omega, fun v3 ev3 => ?_⟩
        have w18 := ev3.1
        refine z_iadd (pc := 21) dX6_wholeOf_21 (fun v4 ev4 => ?_)
        refine z_bipush (pc := 22) (v := 48) dX6_wholeOf_22 (by decide +kernel) ?_
        refine z_isub (pc := 24) dX6_wholeOf_24 (fun v5 ev5 => ?_)
        refine z_istore_n (pc := 25) (lv' := [(3, AI v5), (4, AI k), (0, AR 30), (1, AI a0), (2, AI b0)]) dX6_wholeOf_25 rfl (by decide) rfl ?_
        refine z_iinc (pc := 26) (j := 1) (w := fun q => (4, AI q) :: [(3, AI v5), (0, AR 30), (1, AI a0), (2, AI b0)]) dX6_wholeOf_26 rfl (by decide) (fun _ => rfl) (fun v6 ev6 => ?_)
        refine z_goto (pc := 29) (tgt := 5) dX6_wholeOf_29 (by decide) ?_
        exact ih5 v6 v5 (by omega) (wh_step (k := k - a0) (by omega) (by omega) i1 (w18.trans (by rw [show a0 + (k - a0) = k by omega])) (by omega)) (by omega)
  exact J5 _ a0 0 (by omega) (wh_0 (k := a0 - a0) (by omega) rfl) (Nat.lt_succ_self _)

abbrev kX6_endOfRun : Kd := (cX6_endOfRun, .code yX6_endOfRun cX6_endOfRun 5 (some .int) :: wsL_law0, rmL 2, RX6, (some .int), 5)
theorem ct_X6_endOfRun : Ct kX6_endOfRun yX6_endOfRun (fun a hi Q => ∃ a0 : Int, ∃ n : Int, a = [AR 30, AI a0, AI n] ∧ ((0 ≤ a0 ∧ a0 < n) ∧ n ≤ 600) ∧ ∀ v : Int, (RunE (hi 30) n a0 v) → Q (AI v) hi) := by
  refine Ct.of (ws' := _) (by decide +kernel) rfl rfl ?_
  intro a hi Q hT
  obtain ⟨a0, n, rfl, hpre, hQ⟩ := hT
  refine ⟨Nat.le_of_ble_eq_true rfl, ?_⟩
  show Z kX6_endOfRun Q 0 [(0, AR 30), (1, AI a0), (2, AI n)] [] hi
  refine z_aload_n (pc := 0) (x := 30) dX6_endOfRun_0 rfl 0 rfl ?_
  refine z_iload_n (pc := 1) dX6_endOfRun_1 rfl 1 rfl ?_
  refine z_callV (pc := 2) (kc := kX6_byteAt) (n := 1) (pl := 29) (ci := 5) (C := RX6) (As := [AI a0]) (stk := []) ct_X6_byteAt (gdV rfl rfl (iw18 _ (List.mem_of_getElem? (i := 17) rfl)) (iw18 _ (List.mem_of_getElem? (i := 18) rfl)) (iw18 _ (List.mem_of_getElem? (i := 19) rfl)) (iw2 _ (List.mem_of_getElem? (i := 4) rfl)) (iw18 _ (List.mem_of_getElem? (i := 20) rfl))) rfl ⟨rfl, rfl⟩ (by decide +kernel) ⟨by decide, by decide⟩ (by decide) rfl rfl dX6_endOfRun_2 rfl rfl (Nat.le_of_ble_eq_true rfl) ?_
  refine ⟨_, rfl, by omega, fun v1 ev1 => ?_⟩
  refine z_istore_n (pc := 5) (lv' := [(3, AI v1), (0, AR 30), (1, AI a0), (2, AI n)]) dX6_endOfRun_5 rfl (by decide) rfl ?_
  refine z_iload_n (pc := 6) dX6_endOfRun_6 rfl 2 rfl ?_
  refine z_iconst (pc := 7) (v := 1) dX6_endOfRun_7 rfl ?_
  refine z_iadd (pc := 8) dX6_endOfRun_8 (fun v2 ev2 => ?_)
  refine z_istore (pc := 9) (lv' := [(4, AI v2), (3, AI v1), (0, AR 30), (1, AI a0), (2, AI n)]) dX6_endOfRun_9 (by decide) rfl ?_
  refine z_iload_n (pc := 11) dX6_endOfRun_11 rfl 1 rfl ?_
  refine z_callS (pc := 12) (kc := kX6_isLetter) (n := 1) (As := [AI v1]) (stk := []) ct_X6_isLetter (gdS rfl rfl (iw19 _ (List.mem_of_getElem? (i := 4) rfl)) (iw19 _ (List.mem_of_getElem? (i := 5) rfl)) (iw2 _ (List.mem_of_getElem? (i := 4) rfl)) (iw19 _ (List.mem_of_getElem? (i := 6) rfl))) rfl ⟨rfl, rfl⟩ (by decide +kernel) ⟨by decide, by decide⟩ dX6_endOfRun_12 rfl rfl (Nat.le_of_ble_eq_true rfl) ?_
  refine ⟨_, rfl, by omega, fun v3 ev3 => ?_⟩
  refine z_if_ne (pc := 15) (tgt := 28) dX6_endOfRun_15 (by decide) ⟨by omega, by omega⟩ (fun c4 => ?_) (fun c4 => ?_)
  · have J28 : ∀ (N : Nat) (k : Int), (a0 < k ∧ k ≤ n) → (∀ q, a0 ≤ q → q < k → sameC (hi 30) a0 q) → ((n - k).toNat) < N → Z kX6_endOfRun Q 28 [(4, AI k), (3, AI v1), (0, AR 30), (1, AI a0), (2, AI n)] [] hi := by
      intro N
      induction N with
      | zero => intro k _ _ _; exact absurd (by assumption) (Nat.not_lt_zero _)
      | succ N ih28 =>
        intro k i0 i1 hm28
        refine z_iload (pc := 28) dX6_endOfRun_28 0 rfl ?_
        refine z_iload_n (pc := 30) dX6_endOfRun_30 rfl 4 rfl ?_
        refine z_icmp_ge (pc := 31) (tgt := 72) dX6_endOfRun_31 (by decide) ⟨by omega, by omega⟩ ⟨by omega, by omega⟩ (fun c5 => ?_) (fun c5 => ?_)
        · refine z_iload (pc := 72) dX6_endOfRun_72 0 rfl ?_
          refine z_iret (pc := 74) rfl dX6_endOfRun_74 ?_
          exact hQ k (by first | exact ⟨by omega, Or.inl ⟨by omega, by omega, by omega⟩⟩ | exact ⟨by omega, Or.inr ⟨by omega, i1, by omega⟩⟩)
        · refine z_aload_n (pc := 34) (x := 30) dX6_endOfRun_34 rfl 2 rfl ?_
          refine z_iload (pc := 35) dX6_endOfRun_35 0 rfl ?_
          refine z_callV (pc := 37) (kc := kX6_byteAt) (n := 1) (pl := 29) (ci := 5) (C := RX6) (As := [AI k]) (stk := []) ct_X6_byteAt (gdV rfl rfl (iw18 _ (List.mem_of_getElem? (i := 17) rfl)) (iw18 _ (List.mem_of_getElem? (i := 18) rfl)) (iw18 _ (List.mem_of_getElem? (i := 19) rfl)) (iw2 _ (List.mem_of_getElem? (i := 4) rfl)) (iw18 _ (List.mem_of_getElem? (i := 20) rfl))) rfl ⟨rfl, rfl⟩ (by decide +kernel) ⟨by decide, by decide⟩ (by decide) rfl rfl dX6_endOfRun_37 rfl rfl (Nat.le_of_ble_eq_true rfl) ?_
          refine ⟨_, rfl, by omega, fun v6 ev6 => ?_⟩
          refine z_callS (pc := 40) (kc := kX6_isLetter) (n := 1) (As := [AI v6]) (stk := []) ct_X6_isLetter (gdS rfl rfl (iw19 _ (List.mem_of_getElem? (i := 4) rfl)) (iw19 _ (List.mem_of_getElem? (i := 5) rfl)) (iw2 _ (List.mem_of_getElem? (i := 4) rfl)) (iw19 _ (List.mem_of_getElem? (i := 6) rfl))) rfl ⟨rfl, rfl⟩ (by decide +kernel) ⟨by decide, by decide⟩ dX6_endOfRun_40 rfl rfl (Nat.le_of_ble_eq_true rfl) ?_
          refine ⟨_, rfl, by omega, fun v7 ev7 => ?_⟩
          refine z_iload_n (pc := 43) dX6_endOfRun_43 rfl 1 rfl ?_
          refine z_callS (pc := 44) (kc := kX6_isLetter) (n := 1) (As := [AI v1]) (stk := [AI v7]) ct_X6_isLetter (gdS rfl rfl (iw19 _ (List.mem_of_getElem? (i := 4) rfl)) (iw19 _ (List.mem_of_getElem? (i := 5) rfl)) (iw2 _ (List.mem_of_getElem? (i := 4) rfl)) (iw19 _ (List.mem_of_getElem? (i := 6) rfl))) rfl ⟨rfl, rfl⟩ (by decide +kernel) ⟨by decide, by decide⟩ dX6_endOfRun_44 rfl rfl (Nat.le_of_ble_eq_true rfl) ?_
          refine ⟨_, rfl, by omega, fun v8 ev8 => ?_⟩
          refine z_icmp_ne (pc := 47) (tgt := 72) dX6_endOfRun_47 (by decide) ⟨by omega, by omega⟩ ⟨by omega, by omega⟩ (fun c9 => ?_) (fun c9 => ?_)
          · refine z_iload (pc := 72) dX6_endOfRun_72 0 rfl ?_
            refine z_iret (pc := 74) rfl dX6_endOfRun_74 ?_
            exact hQ k (by first | exact ⟨by omega, Or.inl ⟨by omega, by omega, by omega⟩⟩ | exact ⟨by omega, Or.inr ⟨by omega, i1, by omega⟩⟩)
          · refine z_aload_n (pc := 50) (x := 30) dX6_endOfRun_50 rfl 2 rfl ?_
            refine z_iload (pc := 51) dX6_endOfRun_51 0 rfl ?_
            refine z_callV (pc := 53) (kc := kX6_byteAt) (n := 1) (pl := 29) (ci := 5) (C := RX6) (As := [AI k]) (stk := []) ct_X6_byteAt (gdV rfl rfl (iw18 _ (List.mem_of_getElem? (i := 17) rfl)) (iw18 _ (List.mem_of_getElem? (i := 18) rfl)) (iw18 _ (List.mem_of_getElem? (i := 19) rfl)) (iw2 _ (List.mem_of_getElem? (i := 4) rfl)) (iw18 _ (List.mem_of_getElem? (i := 20) rfl))) rfl ⟨rfl, rfl⟩ (by decide +kernel) ⟨by decide, by decide⟩ (by decide) rfl rfl dX6_endOfRun_53 rfl rfl (Nat.le_of_ble_eq_true rfl) ?_
            refine ⟨_, rfl, by omega, fun v10 ev10 => ?_⟩
            refine z_callS (pc := 56) (kc := kX6_isDigit) (n := 1) (As := [AI v10]) (stk := []) ct_X6_isDigit (gdS rfl rfl (iw19 _ (List.mem_of_getElem? (i := 7) rfl)) (iw19 _ (List.mem_of_getElem? (i := 8) rfl)) (iw2 _ (List.mem_of_getElem? (i := 4) rfl)) (iw19 _ (List.mem_of_getElem? (i := 9) rfl))) rfl ⟨rfl, rfl⟩ (by decide +kernel) ⟨by decide, by decide⟩ dX6_endOfRun_56 rfl rfl (Nat.le_of_ble_eq_true rfl) ?_
            refine ⟨_, rfl, by omega, fun v11 ev11 => ?_⟩
            refine z_iload_n (pc := 59) dX6_endOfRun_59 rfl 1 rfl ?_
            refine z_callS (pc := 60) (kc := kX6_isDigit) (n := 1) (As := [AI v1]) (stk := [AI v11]) ct_X6_isDigit (gdS rfl rfl (iw19 _ (List.mem_of_getElem? (i := 7) rfl)) (iw19 _ (List.mem_of_getElem? (i := 8) rfl)) (iw2 _ (List.mem_of_getElem? (i := 4) rfl)) (iw19 _ (List.mem_of_getElem? (i := 9) rfl))) rfl ⟨rfl, rfl⟩ (by decide +kernel) ⟨by decide, by decide⟩ dX6_endOfRun_60 rfl rfl (Nat.le_of_ble_eq_true rfl) ?_
            refine ⟨_, rfl, by omega, fun v12 ev12 => ?_⟩
            refine z_icmp_ne (pc := 63) (tgt := 72) dX6_endOfRun_63 (by decide) ⟨by omega, by omega⟩ ⟨by omega, by omega⟩ (fun c13 => ?_) (fun c13 => ?_)
            · refine z_iload (pc := 72) dX6_endOfRun_72 0 rfl ?_
              refine z_iret (pc := 74) rfl dX6_endOfRun_74 ?_
              exact hQ k (by first | exact ⟨by omega, Or.inl ⟨by omega, by omega, by omega⟩⟩ | exact ⟨by omega, Or.inr ⟨by omega, i1, by omega⟩⟩)
            · refine z_iinc (pc := 66) (j := 0) (w := fun q => (4, AI q) :: [(3, AI v1), (0, AR 30), (1, AI a0), (2, AI n)]) dX6_endOfRun_66 rfl (by decide) (fun _ => rfl) (fun v14 ev14 => ?_)
              refine z_goto (pc := 69) (tgt := 28) dX6_endOfRun_69 (by decide) ?_
              exact ih28 v14 (by omega) (run_step (by omega) i1 (by omega)) (by omega)
    exact J28 _ v2 (by omega) (run_0 (by omega)) (Nat.lt_succ_self _)
  · refine z_iload_n (pc := 18) dX6_endOfRun_18 rfl 1 rfl ?_
    refine z_callS (pc := 19) (kc := kX6_isDigit) (n := 1) (As := [AI v1]) (stk := []) ct_X6_isDigit (gdS rfl rfl (iw19 _ (List.mem_of_getElem? (i := 7) rfl)) (iw19 _ (List.mem_of_getElem? (i := 8) rfl)) (iw2 _ (List.mem_of_getElem? (i := 4) rfl)) (iw19 _ (List.mem_of_getElem? (i := 9) rfl))) rfl ⟨rfl, rfl⟩ (by decide +kernel) ⟨by decide, by decide⟩ dX6_endOfRun_19 rfl rfl (Nat.le_of_ble_eq_true rfl) ?_
    refine ⟨_, rfl, by omega, fun v15 ev15 => ?_⟩
    refine z_if_ne (pc := 22) (tgt := 28) dX6_endOfRun_22 (by decide) ⟨by omega, by omega⟩ (fun c16 => ?_) (fun c16 => ?_)
    · have J28 : ∀ (N : Nat) (k : Int), (a0 < k ∧ k ≤ n) → (∀ q, a0 ≤ q → q < k → sameC (hi 30) a0 q) → ((n - k).toNat) < N → Z kX6_endOfRun Q 28 [(4, AI k), (3, AI v1), (0, AR 30), (1, AI a0), (2, AI n)] [] hi := by
        intro N
        induction N with
        | zero => intro k _ _ _; exact absurd (by assumption) (Nat.not_lt_zero _)
        | succ N ih28 =>
          intro k i0 i1 hm28
          refine z_iload (pc := 28) dX6_endOfRun_28 0 rfl ?_
          refine z_iload_n (pc := 30) dX6_endOfRun_30 rfl 4 rfl ?_
          refine z_icmp_ge (pc := 31) (tgt := 72) dX6_endOfRun_31 (by decide) ⟨by omega, by omega⟩ ⟨by omega, by omega⟩ (fun c17 => ?_) (fun c17 => ?_)
          · refine z_iload (pc := 72) dX6_endOfRun_72 0 rfl ?_
            refine z_iret (pc := 74) rfl dX6_endOfRun_74 ?_
            exact hQ k (by first | exact ⟨by omega, Or.inl ⟨by omega, by omega, by omega⟩⟩ | exact ⟨by omega, Or.inr ⟨by omega, i1, by omega⟩⟩)
          · refine z_aload_n (pc := 34) (x := 30) dX6_endOfRun_34 rfl 2 rfl ?_
            refine z_iload (pc := 35) dX6_endOfRun_35 0 rfl ?_
            refine z_callV (pc := 37) (kc := kX6_byteAt) (n := 1) (pl := 29) (ci := 5) (C := RX6) (As := [AI k]) (stk := []) ct_X6_byteAt (gdV rfl rfl (iw18 _ (List.mem_of_getElem? (i := 17) rfl)) (iw18 _ (List.mem_of_getElem? (i := 18) rfl)) (iw18 _ (List.mem_of_getElem? (i := 19) rfl)) (iw2 _ (List.mem_of_getElem? (i := 4) rfl)) (iw18 _ (List.mem_of_getElem? (i := 20) rfl))) rfl ⟨rfl, rfl⟩ (by decide +kernel) ⟨by decide, by decide⟩ (by decide) rfl rfl dX6_endOfRun_37 rfl rfl (Nat.le_of_ble_eq_true rfl) ?_
            refine ⟨_, rfl, by omega, fun v18 ev18 => ?_⟩
            refine z_callS (pc := 40) (kc := kX6_isLetter) (n := 1) (As := [AI v18]) (stk := []) ct_X6_isLetter (gdS rfl rfl (iw19 _ (List.mem_of_getElem? (i := 4) rfl)) (iw19 _ (List.mem_of_getElem? (i := 5) rfl)) (iw2 _ (List.mem_of_getElem? (i := 4) rfl)) (iw19 _ (List.mem_of_getElem? (i := 6) rfl))) rfl ⟨rfl, rfl⟩ (by decide +kernel) ⟨by decide, by decide⟩ dX6_endOfRun_40 rfl rfl (Nat.le_of_ble_eq_true rfl) ?_
            refine ⟨_, rfl, by omega, fun v19 ev19 => ?_⟩
            refine z_iload_n (pc := 43) dX6_endOfRun_43 rfl 1 rfl ?_
            refine z_callS (pc := 44) (kc := kX6_isLetter) (n := 1) (As := [AI v1]) (stk := [AI v19]) ct_X6_isLetter (gdS rfl rfl (iw19 _ (List.mem_of_getElem? (i := 4) rfl)) (iw19 _ (List.mem_of_getElem? (i := 5) rfl)) (iw2 _ (List.mem_of_getElem? (i := 4) rfl)) (iw19 _ (List.mem_of_getElem? (i := 6) rfl))) rfl ⟨rfl, rfl⟩ (by decide +kernel) ⟨by decide, by decide⟩ dX6_endOfRun_44 rfl rfl (Nat.le_of_ble_eq_true rfl) ?_
            refine ⟨_, rfl, by omega, fun v20 ev20 => ?_⟩
            refine z_icmp_ne (pc := 47) (tgt := 72) dX6_endOfRun_47 (by decide) ⟨by omega, by omega⟩ ⟨by omega, by omega⟩ (fun c21 => ?_) (fun c21 => ?_)
            · refine z_iload (pc := 72) dX6_endOfRun_72 0 rfl ?_
              refine z_iret (pc := 74) rfl dX6_endOfRun_74 ?_
              exact hQ k (by first | exact ⟨by omega, Or.inl ⟨by omega, by omega, by omega⟩⟩ | exact ⟨by omega, Or.inr ⟨by omega, i1, by omega⟩⟩)
            · refine z_aload_n (pc := 50) (x := 30) dX6_endOfRun_50 rfl 2 rfl ?_
              refine z_iload (pc := 51) dX6_endOfRun_51 0 rfl ?_
              refine z_callV (pc := 53) (kc := kX6_byteAt) (n := 1) (pl := 29) (ci := 5) (C := RX6) (As := [AI k]) (stk := []) ct_X6_byteAt (gdV rfl rfl (iw18 _ (List.mem_of_getElem? (i := 17) rfl)) (iw18 _ (List.mem_of_getElem? (i := 18) rfl)) (iw18 _ (List.mem_of_getElem? (i := 19) rfl)) (iw2 _ (List.mem_of_getElem? (i := 4) rfl)) (iw18 _ (List.mem_of_getElem? (i := 20) rfl))) rfl ⟨rfl, rfl⟩ (by decide +kernel) ⟨by decide, by decide⟩ (by decide) rfl rfl dX6_endOfRun_53 rfl rfl (Nat.le_of_ble_eq_true rfl) ?_
              refine ⟨_, rfl, by omega, fun v22 ev22 => ?_⟩
              refine z_callS (pc := 56) (kc := kX6_isDigit) (n := 1) (As := [AI v22]) (stk := []) ct_X6_isDigit (gdS rfl rfl (iw19 _ (List.mem_of_getElem? (i := 7) rfl)) (iw19 _ (List.mem_of_getElem? (i := 8) rfl)) (iw2 _ (List.mem_of_getElem? (i := 4) rfl)) (iw19 _ (List.mem_of_getElem? (i := 9) rfl))) rfl ⟨rfl, rfl⟩ (by decide +kernel) ⟨by decide, by decide⟩ dX6_endOfRun_56 rfl rfl (Nat.le_of_ble_eq_true rfl) ?_
              refine ⟨_, rfl, by omega, fun v23 ev23 => ?_⟩
              refine z_iload_n (pc := 59) dX6_endOfRun_59 rfl 1 rfl ?_
              refine z_callS (pc := 60) (kc := kX6_isDigit) (n := 1) (As := [AI v1]) (stk := [AI v23]) ct_X6_isDigit (gdS rfl rfl (iw19 _ (List.mem_of_getElem? (i := 7) rfl)) (iw19 _ (List.mem_of_getElem? (i := 8) rfl)) (iw2 _ (List.mem_of_getElem? (i := 4) rfl)) (iw19 _ (List.mem_of_getElem? (i := 9) rfl))) rfl ⟨rfl, rfl⟩ (by decide +kernel) ⟨by decide, by decide⟩ dX6_endOfRun_60 rfl rfl (Nat.le_of_ble_eq_true rfl) ?_
              refine ⟨_, rfl, by omega, fun v24 ev24 => ?_⟩
              refine z_icmp_ne (pc := 63) (tgt := 72) dX6_endOfRun_63 (by decide) ⟨by omega, by omega⟩ ⟨by omega, by omega⟩ (fun c25 => ?_) (fun c25 => ?_)
              · refine z_iload (pc := 72) dX6_endOfRun_72 0 rfl ?_
                refine z_iret (pc := 74) rfl dX6_endOfRun_74 ?_
                exact hQ k (by first | exact ⟨by omega, Or.inl ⟨by omega, by omega, by omega⟩⟩ | exact ⟨by omega, Or.inr ⟨by omega, i1, by omega⟩⟩)
              · refine z_iinc (pc := 66) (j := 0) (w := fun q => (4, AI q) :: [(3, AI v1), (0, AR 30), (1, AI a0), (2, AI n)]) dX6_endOfRun_66 rfl (by decide) (fun _ => rfl) (fun v26 ev26 => ?_)
                refine z_goto (pc := 69) (tgt := 28) dX6_endOfRun_69 (by decide) ?_
                exact ih28 v26 (by omega) (run_step (by omega) i1 (by omega)) (by omega)
      exact J28 _ v2 (by omega) (run_0 (by omega)) (Nat.lt_succ_self _)
    · refine z_iload (pc := 25) dX6_endOfRun_25 0 rfl ?_
      refine z_iret (pc := 27) rfl dX6_endOfRun_27 ?_
      exact hQ v2 (by first | exact ⟨by omega, Or.inl ⟨by omega, by omega, by omega⟩⟩ | exact ⟨by omega, Or.inr ⟨by omega, i1, by omega⟩⟩)

abbrev kX6_addToken : Kd := (cX6_addToken, .code yX6_addToken cX6_addToken 4 none :: wsL_law0, rmL 1, RX6, none, 4)
theorem ct_X6_addToken : Ct kX6_addToken yX6_addToken (fun a hi Q => ∃ s : Int, ∃ p : Int, ∃ x : Int, a = [AR 30, AR (ec s), AI p, AI x] ∧ ((0 ≤ hi 29 5 ∧ hi 29 5 ≤ 600) ∧ (0 ≤ s ∧ s < 41) ∧ inR p ∧ inR x) ∧ ∀ h2 : HI, (Fr [29, 31, 32, 33] hi h2 ∧ (h2 31 = updI (hi 31) (hi 29 5).toNat s ∧ h2 32 = updI (hi 32) (hi 29 5).toNat p ∧ h2 33 = updI (hi 33) (hi 29 5).toNat x ∧ h2 29 = updI (hi 29) 5 (hi 29 5 + 1))) → Q AU h2) := by
  refine Ct.of (ws' := _) (by decide +kernel) rfl rfl ?_
  intro a hi Q hT
  obtain ⟨s, p, x, rfl, hpre, hQ⟩ := hT
  refine ⟨Nat.le_of_ble_eq_true rfl, ?_⟩
  show Z kX6_addToken Q 0 [(0, AR 30), (1, AR (ec s)), (2, AI p), (3, AI x)] [] hi
  refine z_aload_n (pc := 0) (x := 30) dX6_addToken_0 rfl 0 rfl ?_
  refine z_getI (pc := 1) (pl := 29) (f := 5) (ci := 5) (C := RX6) (T := TX6) (N := 9) hu_X6 (by decide) rfl rfl (by decide) rfl (List.mem_cons_of_mem _ (iw3 _ (List.mem_of_getElem? (i := 19) rfl))) rfl (by decide) dX6_addToken_1 (fun v1 ev1 rv1 => ?_)
  refine z_if_lt (pc := 4) (tgt := 57) dX6_addToken_4 (by decide) ⟨by omega, by omega⟩ (fun c2 => ?_) (fun c2 => ?_)
  · refine z_vret (pc := 57) rfl dX6_addToken_57 ?_
    exact hQ hi ⟨(Fr.rf), by first | (exfalso; omega) | exact adt_fin w26 w36 w46 w54 (by omega) (by omega) (by omega) (by omega)⟩
  · refine z_aload_n (pc := 7) (x := 30) dX6_addToken_7 rfl 0 rfl ?_
    refine z_getI (pc := 8) (pl := 29) (f := 5) (ci := 5) (C := RX6) (T := TX6) (N := 9) hu_X6 (by decide) rfl rfl (by decide) rfl (List.mem_cons_of_mem _ (iw3 _ (List.mem_of_getElem? (i := 19) rfl))) rfl (by decide) dX6_addToken_8 (fun v3 ev3 rv3 => ?_)
    refine z_sipush (pc := 11) (v := 600) dX6_addToken_11 (by decide +kernel) ?_
    refine z_icmp_gt (pc := 14) (tgt := 57) dX6_addToken_14 (by decide) ⟨by omega, by omega⟩ ⟨by decide, by decide⟩ (fun c4 => ?_) (fun c4 => ?_)
    · refine z_vret (pc := 57) rfl dX6_addToken_57 ?_
      exact hQ hi ⟨(Fr.rf), by first | (exfalso; omega) | exact adt_fin w26 w36 w46 w54 (by omega) (by omega) (by omega) (by omega)⟩
    · refine z_aload_n (pc := 17) (x := 30) dX6_addToken_17 rfl 0 rfl ?_
      refine z_getR (pc := 18) (pl := 29) (f := 2) (ci := 5) (C := RX6) (T := TX6) (N := 9) hu_X6 (by decide) rfl rfl (by decide) rfl (List.mem_cons_of_mem _ (iw3 _ (List.mem_of_getElem? (i := 16) rfl))) rfl dX6_addToken_18 ?_
      refine z_aload_n (pc := 21) (x := 30) dX6_addToken_21 rfl 0 rfl ?_
      refine z_getI (pc := 22) (pl := 29) (f := 5) (ci := 5) (C := RX6) (T := TX6) (N := 9) hu_X6 (by decide) rfl rfl (by decide) rfl (List.mem_cons_of_mem _ (iw3 _ (List.mem_of_getElem? (i := 19) rfl))) rfl (by decide) dX6_addToken_22 (fun v5 ev5 rv5 => ?_)
      refine z_aload_n (pc := 25) (x := (ec s)) dX6_addToken_25 rfl 1 rfl ?_
      refine z_astE (pc := 26) (pl := 31) (by decide) rfl (by decide) (by omega) (by omega) (by omega) dX6_addToken_26 (fun h6 eh6 => ?_)
      have frh6 : Fr [29, 31, 32, 33] hi h6 := (Fr.put (Fr.rf) eh6 (by decide))
      have w26 := eh6
      refine z_aload_n (pc := 27) (x := 30) dX6_addToken_27 rfl 0 rfl ?_
      refine z_getR (pc := 28) (pl := 29) (f := 3) (ci := 5) (C := RX6) (T := TX6) (N := 9) hu_X6 (by decide) rfl rfl (by decide) rfl (List.mem_cons_of_mem _ (iw3 _ (List.mem_of_getElem? (i := 17) rfl))) rfl dX6_addToken_28 ?_
      refine z_aload_n (pc := 31) (x := 30) dX6_addToken_31 rfl 0 rfl ?_
      refine z_getI (pc := 32) (pl := 29) (f := 5) (ci := 5) (C := RX6) (T := TX6) (N := 9) hu_X6 (by decide) rfl rfl (by decide) rfl (List.mem_cons_of_mem _ (iw3 _ (List.mem_of_getElem? (i := 19) rfl))) rfl (by decide) dX6_addToken_32 (fun v7 ev7 rv7 => ?_)
      rw [(by rw [eh6]; rfl : h6 29 5 = hi 29 5)] at ev7
      refine z_iload_n (pc := 35) dX6_addToken_35 rfl 2 rfl ?_
      refine z_iast (pc := 36) (pl := 32) (by decide) rfl (by decide) (by omega) (by omega) ⟨by omega, by omega⟩ dX6_addToken_36 (fun h8 eh8 => ?_)
      have frh8 : Fr [29, 31, 32, 33] hi h8 := (Fr.put frh6 eh8 (by decide))
      have w36 := eh8
      refine z_aload_n (pc := 37) (x := 30) dX6_addToken_37 rfl 0 rfl ?_
      refine z_getR (pc := 38) (pl := 29) (f := 4) (ci := 5) (C := RX6) (T := TX6) (N := 9) hu_X6 (by decide) rfl rfl (by decide) rfl (List.mem_cons_of_mem _ (iw3 _ (List.mem_of_getElem? (i := 18) rfl))) rfl dX6_addToken_38 ?_
      refine z_aload_n (pc := 41) (x := 30) dX6_addToken_41 rfl 0 rfl ?_
      refine z_getI (pc := 42) (pl := 29) (f := 5) (ci := 5) (C := RX6) (T := TX6) (N := 9) hu_X6 (by decide) rfl rfl (by decide) rfl (List.mem_cons_of_mem _ (iw3 _ (List.mem_of_getElem? (i := 19) rfl))) rfl (by decide) dX6_addToken_42 (fun v9 ev9 rv9 => ?_)
      rw [(by rw [eh8]; rfl : h8 29 5 = h6 29 5), (by rw [eh6]; rfl : h6 29 5 = hi 29 5)] at ev9
      refine z_iload_n (pc := 45) dX6_addToken_45 rfl 3 rfl ?_
      refine z_iast (pc := 46) (pl := 33) (by decide) rfl (by decide) (by omega) (by omega) ⟨by omega, by omega⟩ dX6_addToken_46 (fun h10 eh10 => ?_)
      have frh10 : Fr [29, 31, 32, 33] hi h10 := (Fr.put frh8 eh10 (by decide))
      have w46 := eh10
      refine z_aload_n (pc := 47) (x := 30) dX6_addToken_47 rfl 0 rfl ?_
      refine z_dup (pc := 48) dX6_addToken_48 rfl ?_
      refine z_getI (pc := 49) (pl := 29) (f := 5) (ci := 5) (C := RX6) (T := TX6) (N := 9) hu_X6 (by decide) rfl rfl (by decide) rfl (List.mem_cons_of_mem _ (iw3 _ (List.mem_of_getElem? (i := 19) rfl))) rfl (by decide) dX6_addToken_49 (fun v11 ev11 rv11 => ?_)
      rw [(by rw [eh10]; rfl : h10 29 5 = h8 29 5), (by rw [eh8]; rfl : h8 29 5 = h6 29 5), (by rw [eh6]; rfl : h6 29 5 = hi 29 5)] at ev11
      refine z_iconst (pc := 52) (v := 1) dX6_addToken_52 rfl ?_
      refine z_iadd (pc := 53) dX6_addToken_53 (fun v12 ev12 => ?_)
      refine z_putI (pc := 54) (pl := 29) (f := 5) (ci := 5) (C := RX6) (T := TX6) (N := 9) hu_X6 tyX6_ok nmX6 (by decide) rfl rfl (by decide) rfl (List.mem_cons_of_mem _ (iw3 _ (List.mem_of_getElem? (i := 19) rfl))) rfl rfl (ty := .int) (by decide +kernel) rfl rfl ⟨by omega, by omega⟩ dX6_addToken_54 (fun h13 eh13 => ?_)
      have frh13 : Fr [29, 31, 32, 33] hi h13 := (Fr.put frh10 eh13 (by decide))
      have w54 := eh13
      refine z_vret (pc := 57) rfl dX6_addToken_57 ?_
      exact hQ h13 ⟨frh13, by first | (exfalso; omega) | exact adt_fin w26 w36 w46 w54 (by omega) (by omega) (by omega) (by omega)⟩

/-- fields of p but those of J are as before -/
def FF (p : Nat) (J : List Nat) (hi h2 : HI) : Prop := ∀ j, j ∉ J → h2 p j = hi p j
theorem FF.rf {p : Nat} {J : List Nat} {hi : HI} : FF p J hi hi := fun _ _ => rfl
theorem FF.put {p k : Nat} {J : List Nat} {hi h1 h2 : HI} {x : Int} (h : FF p J hi h1) (e : h2 = hput h1 p (updI (h1 p) k x)) (hk : k ∈ J) : FF p J hi h2 := fun j hj => by
  rw [e, hput_same, updI_ne _ _ (fun q => hj (by rw [q]; exact hk))]; exact h j hj
theorem FF.oth {p q : Nat} {J : List Nat} {hi h1 h2 : HI} {f : Nat → Int} (h : FF p J hi h1) (e : h2 = hput h1 q f) (hq : p ≠ q) : FF p J hi h2 := fun j hj => by
  rw [e, hput_ne _ _ hq]; exact h j hj
theorem FF.call0 {p : Nat} {J M : List Nat} {hi h1 h2 : HI} (h : FF p J hi h1) (e : Fr M h1 h2) (hp : p ∉ M) : FF p J hi h2 := fun j hj => by
  rw [e p hp]; exact h j hj
theorem FF.call {p : Nat} {J J1 : List Nat} {hi h1 h2 : HI} (h : FF p J hi h1) (e : FF p J1 h1 h2) (hs : ∀ x ∈ J1, x ∈ J) : FF p J hi h2 := fun j hj => by
  rw [e j (fun q => hj (hs j q))]; exact h j hj
/-! the next token of the plain form -/
def pk (f : Nat → Int) (p : Int) : Nat → Int
  | 0 => 0
  | n + 1 => 32 * pk f p n + f (p + n).toNat - 96
def mn (a b : Int) : Int := if a < b then a else b
abbrev isSg (c : Int) : Prop := c = 43 ∨ c = 45 ∨ c = 60 ∨ c = 61 ∨ c = 62 ∨ c = 40 ∨ c = 41 ∨ c = 59
def GoT (f : Nat → Int) (n p e t v w : Int) : Prop := (p = n ∧ e = p ∧ t = 0) ∨ (p < n ∧ ¬ isBl (f p.toNat) ∧ RunE f n p e ∧ ((isLe (f p.toNat) ∧ t = (if 7 < e - p then 4 else 1) ∧ w = pk f p (mn (e - p) 7).toNat) ∨ (isDi (f p.toNat) ∧ t = (if 3 < e - p then 4 else 2) ∧ v = wh f p (mn (e - p) 3).toNat) ∨ (¬ isLe (f p.toNat) ∧ ¬ isDi (f p.toNat) ∧ v = f p.toNat ∧ ((t = 3 ∧ isSg (f p.toNat)) ∨ (t = 4 ∧ ¬ isSg (f p.toNat))))))
def GoP (hi h2 : HI) : Prop := (hi 39 11 ≤ h2 39 10 ∧ h2 39 10 ≤ hi 39 9 ∧ ∀ q, hi 39 11 ≤ q → q < h2 39 10 → isBl (fM hi q.toNat)) ∧ GoT (fM hi) (hi 39 9) (h2 39 10) (h2 39 11) (h2 39 12) (h2 39 13) (h2 39 14)
theorem run_le {f : Nat → Int} {n p e : Int} (h0 : p < e ∧ e ≤ n) (hp : isLe (f p.toNat)) (h1 : ∀ q, p ≤ q → q < e → isLe (f q.toNat)) (h2 : n ≤ e ∨ ¬ isLe (f e.toNat)) : RunE f n p e := by
  refine ⟨h0, Or.inr ⟨Or.inl hp, fun q q0 q1 => ?_, ?_⟩⟩
  · have := h1 q q0 q1
    show (_ ↔ _) ∧ (_ ↔ _)
    constructor <;> constructor <;> intro _ <;> omega
  · rcases h2 with h2 | h2
    · left; omega
    · right; intro q; exact h2 (q.1.mpr hp)
theorem run_di {f : Nat → Int} {n p e : Int} (h0 : p < e ∧ e ≤ n) (hp : isDi (f p.toNat)) (h1 : ∀ q, p ≤ q → q < e → isDi (f q.toNat)) (h2 : n ≤ e ∨ ¬ isDi (f e.toNat)) : RunE f n p e := by
  refine ⟨h0, Or.inr ⟨Or.inr hp, fun q q0 q1 => ?_, ?_⟩⟩
  · have := h1 q q0 q1
    show (_ ↔ _) ∧ (_ ↔ _)
    constructor <;> constructor <;> intro _ <;> omega
  · rcases h2 with h2 | h2
    · left; omega
    · right; intro q; exact h2 (q.2.mpr hp)
theorem run_one {f : Nat → Int} {n p e : Int} (h0 : p < n) (he : e = p + 1) (h1 : ¬ isLe (f p.toNat)) (h2 : ¬ isDi (f p.toNat)) : RunE f n p e := ⟨by omega, Or.inl ⟨h1, h2, he⟩⟩
theorem pk_bd {f : Nat → Int} {p : Int} : ∀ n : Nat, (∀ i : Int, 0 ≤ i → i < n → isLe (f (p + i).toNat)) → 0 ≤ pk f p n ∧ pk f p n < 32 ^ n
  | 0, _ => ⟨Int.le_refl 0, show (0 : Int) < 1 by decide⟩
  | n + 1, h => by
    have ih := pk_bd n (fun i i0 i1 => h i i0 (by omega))
    have d := h n (by omega) (by omega)
    show 0 ≤ 32 * pk f p n + f (p + n).toNat - 96 ∧ 32 * pk f p n + f (p + n).toNat - 96 < 32 ^ (n + 1)
    rw [Int.pow_succ]
    omega
theorem pk_b6 {f : Nat → Int} {p x w : Int} (hx : p ≤ x) (h1 : ∀ q, p ≤ q → q < x → isLe (f q.toNat)) (hw : w = pk f p (mn (x - p) 7).toNat) : (0 ≤ w ∧ w < 34359738368) ∧ (x - p < 7 → w < 1073741824) := by
  have hb : ∀ n : Nat, (n : Int) ≤ x - p → 0 ≤ pk f p n ∧ pk f p n < 32 ^ n := fun n hn => pk_bd n (fun i i0 i1 => h1 (p + i) (by omega) (by omega))
  unfold mn at hw
  by_cases c : x - p < 7
  · rw [if_pos c] at hw
    have q := hb (x - p).toNat (by omega)
    rcases (show (x - p).toNat = 0 ∨ (x - p).toNat = 1 ∨ (x - p).toNat = 2 ∨ (x - p).toNat = 3 ∨ (x - p).toNat = 4 ∨ (x - p).toNat = 5 ∨ (x - p).toNat = 6 by omega) with e | e | e | e | e | e | e <;> rw [e] at q hw <;> simp at q <;> rw [← hw] at q <;> omega
  · rw [if_neg c] at hw
    have q := hb 7 (by omega)
    rw [show (7 : Int).toNat = 7 from rfl] at hw
    rw [← hw] at q
    simp at q; omega
theorem pk_0 {f : Nat → Int} {p x w : Int} (hx : x = p) (hw : w = 0) : w = pk f p (mn (x - p) 7).toNat := by
  subst hx; subst hw
  unfold mn
  rw [if_pos (by omega), show (x - x).toNat = 0 by omega]; rfl
theorem pk_step {f : Nat → Int} {p x x' w w' : Int} (hx : p ≤ x) (hc : x - p < 7) (hx' : x' = x + 1) (hw : w = pk f p (mn (x - p) 7).toNat) (hw' : w' = 32 * w + f x.toNat - 96) : w' = pk f p (mn (x' - p) 7).toNat := by
  obtain ⟨n, hn⟩ : ∃ n : Nat, x - p = n := ⟨(x - p).toNat, by omega⟩
  unfold mn at hw ⊢
  rw [if_pos hc, hn, Int.toNat_natCast] at hw
  have e : (if x' - p < 7 then x' - p else 7).toNat = n + 1 := by split <;> omega
  rw [e, hw', hw]
  show _ = 32 * pk f p n + f (p + n).toNat - 96
  rw [show p + (n : Int) = x by omega]
theorem pk_stay {f : Nat → Int} {p x x' w w' : Int} (hc : 7 ≤ x - p) (hx' : x' = x + 1) (hw : w = pk f p (mn (x - p) 7).toNat) (hw' : w' = w) : w' = pk f p (mn (x' - p) 7).toNat := by
  unfold mn at hw ⊢
  rw [if_neg (by omega)] at hw ⊢
  rw [hw', hw]
theorem wh_b3 {f : Nat → Int} {p x w : Int} (hx : p ≤ x) (h1 : ∀ q, p ≤ q → q < x → isDi (f q.toNat)) (hw : w = wh f p (mn (x - p) 3).toNat) : 0 ≤ w ∧ w ≤ 999 := by
  have hb : ∀ n : Nat, (n : Int) ≤ x - p → 0 ≤ wh f p n ∧ wh f p n < 10 ^ n := fun n hn => wh_dig n (fun i i0 i1 => h1 (p + i) (by omega) (by omega))
  unfold mn at hw
  by_cases c : x - p < 3
  · rw [if_pos c] at hw
    have q := hb (x - p).toNat (by omega)
    rcases (show (x - p).toNat = 0 ∨ (x - p).toNat = 1 ∨ (x - p).toNat = 2 by omega) with e | e | e <;> rw [e] at q hw <;> simp at q <;> rw [← hw] at q <;> omega
  · rw [if_neg c] at hw
    have q := hb 3 (by omega)
    rw [show (3 : Int).toNat = 3 from rfl] at hw
    rw [← hw] at q
    simp at q; omega
theorem whm_0 {f : Nat → Int} {p x w : Int} (hx : x = p) (hw : w = 0) : w = wh f p (mn (x - p) 3).toNat := by
  subst hx; subst hw
  unfold mn
  rw [if_pos (by omega), show (x - x).toNat = 0 by omega]; rfl
theorem whm_step {f : Nat → Int} {p x x' w w' : Int} (hx : p ≤ x) (hc : x - p < 3) (hx' : x' = x + 1) (hw : w = wh f p (mn (x - p) 3).toNat) (hw' : w' = 10 * w + f x.toNat - 48) : w' = wh f p (mn (x' - p) 3).toNat := by
  obtain ⟨n, hn⟩ : ∃ n : Nat, x - p = n := ⟨(x - p).toNat, by omega⟩
  unfold mn at hw ⊢
  rw [if_pos hc, hn, Int.toNat_natCast] at hw
  have e : (if x' - p < 3 then x' - p else 3).toNat = n + 1 := by split <;> omega
  rw [e, hw', hw]
  show _ = 10 * wh f p n + f (p + n).toNat - 48
  rw [show p + (n : Int) = x by omega]
theorem whm_stay {f : Nat → Int} {p x x' w w' : Int} (hc : 3 ≤ x - p) (hx' : x' = x + 1) (hw : w = wh f p (mn (x - p) 3).toNat) (hw' : w' = w) : w' = wh f p (mn (x' - p) 3).toNat := by
  unfold mn at hw ⊢
  rw [if_neg (by omega)] at hw ⊢
  rw [hw', hw]
theorem bl_step {f : Nat → Int} {a k k' : Int} (h : ∀ q, a ≤ q → q < k → isBl (f q.toNat)) (hk : k' = k + 1) (hb : isBl (f k.toNat)) : ∀ q, a ≤ q → q < k' → isBl (f q.toNat) := fun q q0 q1 => by
  rcases Int.lt_or_eq_of_le (show q ≤ k by omega) with c | c
  · exact h q q0 c
  · rw [c]; exact hb
theorem le_step {f : Nat → Int} {a k k' : Int} (h : ∀ q, a ≤ q → q < k → isLe (f q.toNat)) (hk : k' = k + 1) (hb : isLe (f k.toNat)) : ∀ q, a ≤ q → q < k' → isLe (f q.toNat) := fun q q0 q1 => by
  rcases Int.lt_or_eq_of_le (show q ≤ k by omega) with c | c
  · exact h q q0 c
  · rw [c]; exact hb
theorem di_step {f : Nat → Int} {a k k' : Int} (h : ∀ q, a ≤ q → q < k → isDi (f q.toNat)) (hk : k' = k + 1) (hb : isDi (f k.toNat)) : ∀ q, a ≤ q → q < k' → isDi (f q.toNat) := fun q q0 q1 => by
  rcases Int.lt_or_eq_of_le (show q ≤ k by omega) with c | c
  · exact h q q0 c
  · rw [c]; exact hb
theorem go_e {hi h2 : HI} {p t : Int} (hp : hi 39 11 ≤ p ∧ p ≤ hi 39 9) (hq : ∀ q, hi 39 11 ≤ q → q < p → isBl (fM hi q.toNat)) (hn : hi 39 9 ≤ p) (e0 : h2 39 10 = p) (e1 : h2 39 11 = p) (e2 : h2 39 12 = t) (ht : t = 0) : GoP hi h2 := by
  unfold GoP GoT
  rw [e0, e1, e2]
  exact ⟨⟨hp.1, hp.2, hq⟩, Or.inl ⟨by omega, rfl, ht⟩⟩
theorem go_w {hi h2 : HI} {p e t w : Int} (hp : hi 39 11 ≤ p ∧ p < hi 39 9) (hq : ∀ q, hi 39 11 ≤ q → q < p → isBl (fM hi q.toNat)) (hb : ¬ isBl (fM hi p.toNat)) (hl : isLe (fM hi p.toNat)) (hpe : p ≤ e ∧ e ≤ hi 39 9) (h1 : ∀ q, p ≤ q → q < e → isLe (fM hi q.toNat)) (hx : hi 39 9 ≤ e ∨ ¬ isLe (fM hi e.toNat)) (hw : w = pk (fM hi) p (mn (e - p) 7).toNat) (e0 : h2 39 10 = p) (e1 : h2 39 11 = e) (e2 : h2 39 12 = t) (e4 : h2 39 14 = w) (ht : t = (if 7 < e - p then 4 else 1)) : GoP hi h2 := by
  unfold GoP GoT
  rw [e0, e1, e2, e4]
  have pe : p < e := by
    rcases Int.lt_or_eq_of_le hpe.1 with c | c
    · exact c
    · rw [← c] at hx; omega
  exact ⟨⟨hp.1, by omega, hq⟩, Or.inr ⟨hp.2, hb, run_le ⟨pe, hpe.2⟩ hl h1 hx, Or.inl ⟨hl, ht, hw⟩⟩⟩
theorem go_d {hi h2 : HI} {p e t w : Int} (hp : hi 39 11 ≤ p ∧ p < hi 39 9) (hq : ∀ q, hi 39 11 ≤ q → q < p → isBl (fM hi q.toNat)) (hb : ¬ isBl (fM hi p.toNat)) (hl : isDi (fM hi p.toNat)) (hpe : p ≤ e ∧ e ≤ hi 39 9) (h1 : ∀ q, p ≤ q → q < e → isDi (fM hi q.toNat)) (hx : hi 39 9 ≤ e ∨ ¬ isDi (fM hi e.toNat)) (hw : w = wh (fM hi) p (mn (e - p) 3).toNat) (e0 : h2 39 10 = p) (e1 : h2 39 11 = e) (e2 : h2 39 12 = t) (e4 : h2 39 13 = w) (ht : t = (if 3 < e - p then 4 else 2)) : GoP hi h2 := by
  unfold GoP GoT
  rw [e0, e1, e2, e4]
  have pe : p < e := by
    rcases Int.lt_or_eq_of_le hpe.1 with c | c
    · exact c
    · rw [← c] at hx; omega
  exact ⟨⟨hp.1, by omega, hq⟩, Or.inr ⟨hp.2, hb, run_di ⟨pe, hpe.2⟩ hl h1 hx, Or.inr (Or.inl ⟨hl, ht, hw⟩)⟩⟩
theorem go_s {hi h2 : HI} {p e t c : Int} (hp : hi 39 11 ≤ p ∧ p < hi 39 9) (hq : ∀ q, hi 39 11 ≤ q → q < p → isBl (fM hi q.toNat)) (hb : ¬ isBl (fM hi p.toNat)) (hc : c = fM hi p.toNat) (hl : ¬ isLe c) (hd : ¬ isDi c) (he : e = p + 1) (e0 : h2 39 10 = p) (e1 : h2 39 11 = e) (e2 : h2 39 12 = t) (e4 : h2 39 13 = c) (ht : (t = 3 ∧ isSg c) ∨ (t = 4 ∧ ¬ isSg c)) : GoP hi h2 := by
  unfold GoP GoT
  rw [e0, e1, e2, e4]
  subst hc
  exact ⟨⟨hp.1, by omega, hq⟩, Or.inr ⟨hp.2, hb, run_one hp.2 he hl hd, Or.inr (Or.inr ⟨hl, hd, rfl, ht⟩)⟩⟩
theorem fM_bd (hi : HI) (j : Nat) : 0 ≤ fM hi j ∧ fM hi j < 256 := by unfold fM; omega
abbrev kX8_go : Kd := (cX8_go, .code yX8_go cX8_go 2 none :: wsL_law0, rmL 2, RX8, none, 2)
theorem ct_X8_go : Ct kX8_go yX8_go (fun a hi Q => a = [AR 40] ∧ ((0 ≤ hi 39 9 ∧ hi 39 9 ≤ 600) ∧ 0 ≤ hi 39 11 ∧ hi 39 11 ≤ hi 39 9) ∧ ∀ h2 : HI, (Fr [39] hi h2 ∧ FF 39 [10, 11, 12, 13, 14] hi h2 ∧ (GoP hi h2)) → Q AU h2) := by
  refine Ct.of (ws' := _) (by decide +kernel) rfl rfl ?_
  intro a hi Q hT
  obtain ⟨rfl, hpre, hQ⟩ := hT
  refine ⟨Nat.le_of_ble_eq_true rfl, ?_⟩
  show Z kX8_go Q 0 [(0, AR 40)] [] hi
  have J0 : ∀ (N : Nat) (hk : HI), (hi 39 11 ≤ hk 39 11 ∧ hk 39 11 ≤ hi 39 9) → (∀ q, hi 39 11 ≤ q → q < hk 39 11 → isBl (fM hi q.toNat)) → (Fr [39] hi hk) → (FF 39 [10, 11, 12, 13, 14] hi hk) → ((hi 39 9 - hk 39 11).toNat) < N → Z kX8_go Q 0 [(0, AR 40)] [] hk := by
    intro N
    induction N with
    | zero => intro hk _ _ _ _ _; exact absurd (by assumption) (Nat.not_lt_zero _)
    | succ N ih0 =>
      intro hk i0 i1 frlhk ffl39hk hm0
      refine z_aload_n (pc := 0) (x := 40) dX8_go_0 rfl 0 rfl ?_
      refine z_aload_n (pc := 1) (x := 40) dX8_go_1 rfl 0 rfl ?_
      refine z_getI (pc := 2) (pl := 39) (f := 11) (ci := 7) (C := RX8) (T := TX8) (N := 33) hu_X8 (by decide) rfl rfl (by decide) rfl (List.mem_cons_of_mem _ (iw27 _ (List.mem_of_getElem? (i := 10) rfl))) rfl (by decide) dX8_go_2 (fun v1 ev1 rv1 => ?_)
      refine z_callV (pc := 5) (kc := kX8_byteAt) (n := 1) (pl := 39) (ci := 7) (C := RX8) (As := [AI v1]) (stk := []) ct_X8_byteAt (gdV rfl rfl (iw28 _ (List.mem_of_getElem? (i := 0) rfl)) (iw28 _ (List.mem_of_getElem? (i := 1) rfl)) (iw28 _ (List.mem_of_getElem? (i := 2) rfl)) (iw1 _ (List.mem_of_getElem? (i := 5) rfl)) (iw28 _ (List.mem_of_getElem? (i := 3) rfl))) rfl ⟨rfl, rfl⟩ (by decide +kernel) ⟨by decide, by decide⟩ (by decide) rfl rfl dX8_go_5 rfl rfl (Nat.le_of_ble_eq_true rfl) ?_
      refine ⟨_, rfl, by (try rw [(frlhk 45 (by decide) : hk 45 = hi 45)]); (try rw [(ffl39hk 9 (by decide) : hk 39 9 = hi 39 9)]); omega, fun v2 ev2 => ?_⟩
      try rw [(frlhk 45 (by decide) : hk 45 = hi 45)] at ev2
      try rw [(ffl39hk 9 (by decide) : hk 39 9 = hi 39 9)] at ev2
      replace ev2 : (v1 < hi 39 9 ∧ v2 = fM hi v1.toNat) ∨ (hi 39 9 ≤ v1 ∧ v2 = -1) := ev2
      rw [ev1] at ev2
      have bbv2 := fM_bd hi (hk 39 11).toNat
      refine z_bipush (pc := 8) (v := 32) dX8_go_8 (by decide +kernel) ?_
      refine z_icmp_eq (pc := 10) (tgt := 26) dX8_go_10 (by decide) ⟨by omega, by omega⟩ ⟨by decide, by decide⟩ (fun c3 => ?_) (fun c3 => ?_)
      · refine z_aload_n (pc := 26) (x := 40) dX8_go_26 rfl 0 rfl ?_
        refine z_dup (pc := 27) dX8_go_27 rfl ?_
        refine z_getI (pc := 28) (pl := 39) (f := 11) (ci := 7) (C := RX8) (T := TX8) (N := 33) hu_X8 (by decide) rfl rfl (by decide) rfl (List.mem_cons_of_mem _ (iw27 _ (List.mem_of_getElem? (i := 10) rfl))) rfl (by decide) dX8_go_28 (fun v4 ev4 rv4 => ?_)
        refine z_iconst (pc := 31) (v := 1) dX8_go_31 rfl ?_
        refine z_iadd (pc := 32) dX8_go_32 (fun v5 ev5 => ?_)
        refine z_putI (pc := 33) (pl := 39) (f := 11) (ci := 7) (C := RX8) (T := TX8) (N := 33) hu_X8 tyX8_ok nmX8 (by decide) rfl rfl (by decide) rfl (List.mem_cons_of_mem _ (iw27 _ (List.mem_of_getElem? (i := 10) rfl))) rfl rfl (ty := .int) (by decide +kernel) rfl rfl ⟨by omega, by omega⟩ dX8_go_33 (fun h6 eh6 => ?_)
        have frh6 : Fr [39] hi h6 := (Fr.put frlhk eh6 (by decide))
        have ff39h6 : FF 39 [10, 11, 12, 13, 14] hi h6 := FF.put ffl39hk eh6 (by decide)
        refine z_goto (pc := 36) (tgt := 0) dX8_go_36 (by decide) ?_
        exact ih0 h6 (by rw [(by rw [(by rw [eh6]; rfl : h6 39 11 = v5)] : h6 39 11 = v5)]; omega) (bl_step i1 (by rw [(by rw [(by rw [eh6]; rfl : h6 39 11 = v5)] : h6 39 11 = v5)]; omega) (by omega)) (frh6) (ff39h6) (by rw [(by rw [(by rw [eh6]; rfl : h6 39 11 = v5)] : h6 39 11 = v5)]; omega)
      · refine z_aload_n (pc := 13) (x := 40) dX8_go_13 rfl 0 rfl ?_
        refine z_aload_n (pc := 14) (x := 40) dX8_go_14 rfl 0 rfl ?_
        refine z_getI (pc := 15) (pl := 39) (f := 11) (ci := 7) (C := RX8) (T := TX8) (N := 33) hu_X8 (by decide) rfl rfl (by decide) rfl (List.mem_cons_of_mem _ (iw27 _ (List.mem_of_getElem? (i := 10) rfl))) rfl (by decide) dX8_go_15 (fun v7 ev7 rv7 => ?_)
        refine z_callV (pc := 18) (kc := kX8_byteAt) (n := 1) (pl := 39) (ci := 7) (C := RX8) (As := [AI v7]) (stk := []) ct_X8_byteAt (gdV rfl rfl (iw28 _ (List.mem_of_getElem? (i := 0) rfl)) (iw28 _ (List.mem_of_getElem? (i := 1) rfl)) (iw28 _ (List.mem_of_getElem? (i := 2) rfl)) (iw1 _ (List.mem_of_getElem? (i := 5) rfl)) (iw28 _ (List.mem_of_getElem? (i := 3) rfl))) rfl ⟨rfl, rfl⟩ (by decide +kernel) ⟨by decide, by decide⟩ (by decide) rfl rfl dX8_go_18 rfl rfl (Nat.le_of_ble_eq_true rfl) ?_
        refine ⟨_, rfl, by (try rw [(frlhk 45 (by decide) : hk 45 = hi 45)]); (try rw [(ffl39hk 9 (by decide) : hk 39 9 = hi 39 9)]); omega, fun v8 ev8 => ?_⟩
        try rw [(frlhk 45 (by decide) : hk 45 = hi 45)] at ev8
        try rw [(ffl39hk 9 (by decide) : hk 39 9 = hi 39 9)] at ev8
        replace ev8 : (v7 < hi 39 9 ∧ v8 = fM hi v7.toNat) ∨ (hi 39 9 ≤ v7 ∧ v8 = -1) := ev8
        rw [ev7] at ev8
        have bbv8 := fM_bd hi (hk 39 11).toNat
        refine z_bipush (pc := 21) (v := 10) dX8_go_21 (by decide +kernel) ?_
        refine z_icmp_ne (pc := 23) (tgt := 39) dX8_go_23 (by decide) ⟨by omega, by omega⟩ ⟨by decide, by decide⟩ (fun c9 => ?_) (fun c9 => ?_)
        · refine z_aload_n (pc := 39) (x := 40) dX8_go_39 rfl 0 rfl ?_
          refine z_aload_n (pc := 40) (x := 40) dX8_go_40 rfl 0 rfl ?_
          refine z_getI (pc := 41) (pl := 39) (f := 11) (ci := 7) (C := RX8) (T := TX8) (N := 33) hu_X8 (by decide) rfl rfl (by decide) rfl (List.mem_cons_of_mem _ (iw27 _ (List.mem_of_getElem? (i := 10) rfl))) rfl (by decide) dX8_go_41 (fun v10 ev10 rv10 => ?_)
          refine z_putI (pc := 44) (pl := 39) (f := 10) (ci := 7) (C := RX8) (T := TX8) (N := 33) hu_X8 tyX8_ok nmX8 (by decide) rfl rfl (by decide) rfl (List.mem_cons_of_mem _ (iw27 _ (List.mem_of_getElem? (i := 15) rfl))) rfl rfl (ty := .int) (by decide +kernel) rfl rfl ⟨by omega, by omega⟩ dX8_go_44 (fun h11 eh11 => ?_)
          have frh11 : Fr [39] hi h11 := (Fr.put frlhk eh11 (by decide))
          have ff39h11 : FF 39 [10, 11, 12, 13, 14] hi h11 := FF.put ffl39hk eh11 (by decide)
          refine z_aload_n (pc := 47) (x := 40) dX8_go_47 rfl 0 rfl ?_
          refine z_iconst (pc := 48) (v := 0) dX8_go_48 rfl ?_
          refine z_putI (pc := 49) (pl := 39) (f := 13) (ci := 7) (C := RX8) (T := TX8) (N := 33) hu_X8 tyX8_ok nmX8 (by decide) rfl rfl (by decide) rfl (List.mem_cons_of_mem _ (iw27 _ (List.mem_of_getElem? (i := 16) rfl))) rfl rfl (ty := .int) (by decide +kernel) rfl rfl ⟨by decide, by decide⟩ dX8_go_49 (fun h12 eh12 => ?_)
          have frh12 : Fr [39] hi h12 := (Fr.put frh11 eh12 (by decide))
          have ff39h12 : FF 39 [10, 11, 12, 13, 14] hi h12 := FF.put ff39h11 eh12 (by decide)
          refine z_aload_n (pc := 52) (x := 40) dX8_go_52 rfl 0 rfl ?_
          refine z_lconst (pc := 53) (v := 0) dX8_go_53 (by decide +kernel) ?_
          refine z_putL (pc := 54) (pl := 39) (f := 14) (ci := 7) (C := RX8) (T := TX8) (N := 33) hu_X8 tyX8_ok nmX8 (by decide) rfl rfl (by decide) rfl (List.mem_cons_of_mem _ (iw27 _ (List.mem_of_getElem? (i := 17) rfl))) rfl rfl (by decide +kernel) ⟨by decide, by decide⟩ (by decide) dX8_go_54 (fun h13 eh13 => ?_)
          have frh13 : Fr [39] hi h13 := (Fr.put frh12 eh13 (by decide))
          have ff39h13 : FF 39 [10, 11, 12, 13, 14] hi h13 := FF.put ff39h12 eh13 (by decide)
          refine z_aload_n (pc := 57) (x := 40) dX8_go_57 rfl 0 rfl ?_
          refine z_aload_n (pc := 58) (x := 40) dX8_go_58 rfl 0 rfl ?_
          refine z_getI (pc := 59) (pl := 39) (f := 11) (ci := 7) (C := RX8) (T := TX8) (N := 33) hu_X8 (by decide) rfl rfl (by decide) rfl (List.mem_cons_of_mem _ (iw27 _ (List.mem_of_getElem? (i := 10) rfl))) rfl (by decide) dX8_go_59 (fun v14 ev14 rv14 => ?_)
          rw [(by rw [eh13]; rfl : h13 39 11 = h12 39 11), (by rw [eh12]; rfl : h12 39 11 = h11 39 11), (by rw [eh11]; rfl : h11 39 11 = hk 39 11)] at ev14
          refine z_callV (pc := 62) (kc := kX8_byteAt) (n := 1) (pl := 39) (ci := 7) (C := RX8) (As := [AI v14]) (stk := []) ct_X8_byteAt (gdV rfl rfl (iw28 _ (List.mem_of_getElem? (i := 0) rfl)) (iw28 _ (List.mem_of_getElem? (i := 1) rfl)) (iw28 _ (List.mem_of_getElem? (i := 2) rfl)) (iw1 _ (List.mem_of_getElem? (i := 5) rfl)) (iw28 _ (List.mem_of_getElem? (i := 3) rfl))) rfl ⟨rfl, rfl⟩ (by decide +kernel) ⟨by decide, by decide⟩ (by decide) rfl rfl dX8_go_62 rfl rfl (Nat.le_of_ble_eq_true rfl) ?_
          refine ⟨_, rfl, by (try rw [(by rw [eh13]; rfl : h13 45 = h12 45)]); (try rw [(by rw [eh12]; rfl : h12 45 = h11 45)]); (try rw [(by rw [eh11]; rfl : h11 45 = hk 45)]); (try rw [(frlhk 45 (by decide) : hk 45 = hi 45)]); (try rw [(by rw [eh13]; rfl : h13 39 9 = h12 39 9)]); (try rw [(by rw [eh12]; rfl : h12 39 9 = h11 39 9)]); (try rw [(by rw [eh11]; rfl : h11 39 9 = hk 39 9)]); (try rw [(ffl39hk 9 (by decide) : hk 39 9 = hi 39 9)]); omega, fun v15 ev15 => ?_⟩
          try rw [(by rw [eh13]; rfl : h13 45 = h12 45), (by rw [eh12]; rfl : h12 45 = h11 45), (by rw [eh11]; rfl : h11 45 = hk 45), (frlhk 45 (by decide) : hk 45 = hi 45)] at ev15
          try rw [(by rw [eh13]; rfl : h13 39 9 = h12 39 9), (by rw [eh12]; rfl : h12 39 9 = h11 39 9), (by rw [eh11]; rfl : h11 39 9 = hk 39 9), (ffl39hk 9 (by decide) : hk 39 9 = hi 39 9)] at ev15
          replace ev15 : (v14 < hi 39 9 ∧ v15 = fM hi v14.toNat) ∨ (hi 39 9 ≤ v14 ∧ v15 = -1) := ev15
          rw [ev14] at ev15
          have bbv15 := fM_bd hi (hk 39 11).toNat
          refine z_istore_n (pc := 65) (lv' := [(1, AI v15), (0, AR 40)]) dX8_go_65 rfl (by decide) rfl ?_
          refine z_iload_n (pc := 66) dX8_go_66 rfl 0 rfl ?_
          refine z_if_ge (pc := 67) (tgt := 78) dX8_go_67 (by decide) ⟨by omega, by omega⟩ (fun c16 => ?_) (fun c16 => ?_)
          · refine z_iload_n (pc := 78) dX8_go_78 rfl 0 rfl ?_
            refine z_i2l (pc := 79) dX8_go_79 ⟨by omega, by omega⟩ ?_
            refine z_ldc2 (pc := 80) (v := 97) (x := 97) (List.mem_cons_of_mem _ (iw27 _ (List.mem_of_getElem? (i := 18) rfl))) (by decide +kernel) dX8_go_80 ?_
            refine z_ldc2 (pc := 83) (v := 122) (x := 122) (List.mem_cons_of_mem _ (iw27 _ (List.mem_of_getElem? (i := 19) rfl))) (by decide +kernel) dX8_go_83 ?_
            refine z_callS (pc := 86) (kc := kX8_within) (n := 3) (As := [AL v15, AL 97, AL 122]) (stk := []) ct_X8_within (gdS rfl rfl (iw9 _ (List.mem_of_getElem? (i := 9) rfl)) (iw9 _ (List.mem_of_getElem? (i := 10) rfl)) (iw1 _ (List.mem_of_getElem? (i := 5) rfl)) (iw9 _ (List.mem_of_getElem? (i := 11) rfl))) rfl ⟨rfl, rfl⟩ (by decide +kernel) ⟨by decide, by decide⟩ dX8_go_86 rfl rfl (Nat.le_of_ble_eq_true rfl) ?_
            refine ⟨_, _, _, rfl, ⟨⟨by omega, by omega⟩, ⟨by decide, by decide⟩, ⟨by decide, by decide⟩⟩, fun v17 ev17 => ?_⟩
            refine z_if_eq (pc := 89) (tgt := 199) dX8_go_89 (by decide) ⟨by omega, by omega⟩ (fun c18 => ?_) (fun c18 => ?_)
            · refine z_iload_n (pc := 199) dX8_go_199 rfl 0 rfl ?_
              refine z_i2l (pc := 200) dX8_go_200 ⟨by omega, by omega⟩ ?_
              refine z_ldc2 (pc := 201) (v := 48) (x := 48) (List.mem_cons_of_mem _ (iw27 _ (List.mem_of_getElem? (i := 22) rfl))) (by decide +kernel) dX8_go_201 ?_
              refine z_ldc2 (pc := 204) (v := 57) (x := 57) (List.mem_cons_of_mem _ (iw27 _ (List.mem_of_getElem? (i := 23) rfl))) (by decide +kernel) dX8_go_204 ?_
              refine z_callS (pc := 207) (kc := kX8_within) (n := 3) (As := [AL v15, AL 48, AL 57]) (stk := []) ct_X8_within (gdS rfl rfl (iw9 _ (List.mem_of_getElem? (i := 9) rfl)) (iw9 _ (List.mem_of_getElem? (i := 10) rfl)) (iw1 _ (List.mem_of_getElem? (i := 5) rfl)) (iw9 _ (List.mem_of_getElem? (i := 11) rfl))) rfl ⟨rfl, rfl⟩ (by decide +kernel) ⟨by decide, by decide⟩ dX8_go_207 rfl rfl (Nat.le_of_ble_eq_true rfl) ?_
              refine ⟨_, _, _, rfl, ⟨⟨by omega, by omega⟩, ⟨by decide, by decide⟩, ⟨by decide, by decide⟩⟩, fun v19 ev19 => ?_⟩
              refine z_if_eq (pc := 210) (tgt := 315) dX8_go_210 (by decide) ⟨by omega, by omega⟩ (fun c20 => ?_) (fun c20 => ?_)
              · refine z_aload_n (pc := 315) (x := 40) dX8_go_315 rfl 1 rfl ?_
                refine z_dup (pc := 316) dX8_go_316 rfl ?_
                refine z_getI (pc := 317) (pl := 39) (f := 11) (ci := 7) (C := RX8) (T := TX8) (N := 33) hu_X8 (by decide) rfl rfl (by decide) rfl (List.mem_cons_of_mem _ (iw27 _ (List.mem_of_getElem? (i := 10) rfl))) rfl (by decide) dX8_go_317 (fun v21 ev21 rv21 => ?_)
                rw [(by rw [eh13]; rfl : h13 39 11 = h12 39 11), (by rw [eh12]; rfl : h12 39 11 = h11 39 11), (by rw [eh11]; rfl : h11 39 11 = hk 39 11)] at ev21
                refine z_iconst (pc := 320) (v := 1) dX8_go_320 rfl ?_
                refine z_iadd (pc := 321) dX8_go_321 (fun v22 ev22 => ?_)
                refine z_putI (pc := 322) (pl := 39) (f := 11) (ci := 7) (C := RX8) (T := TX8) (N := 33) hu_X8 tyX8_ok nmX8 (by decide) rfl rfl (by decide) rfl (List.mem_cons_of_mem _ (iw27 _ (List.mem_of_getElem? (i := 10) rfl))) rfl rfl (ty := .int) (by decide +kernel) rfl rfl ⟨by omega, by omega⟩ dX8_go_322 (fun h23 eh23 => ?_)
                have frh23 : Fr [39] hi h23 := (Fr.put frh13 eh23 (by decide))
                have ff39h23 : FF 39 [10, 11, 12, 13, 14] hi h23 := FF.put ff39h13 eh23 (by decide)
                refine z_aload_n (pc := 325) (x := 40) dX8_go_325 rfl 1 rfl ?_
                refine z_iload_n (pc := 326) dX8_go_326 rfl 0 rfl ?_
                refine z_putI (pc := 327) (pl := 39) (f := 13) (ci := 7) (C := RX8) (T := TX8) (N := 33) hu_X8 tyX8_ok nmX8 (by decide) rfl rfl (by decide) rfl (List.mem_cons_of_mem _ (iw27 _ (List.mem_of_getElem? (i := 16) rfl))) rfl rfl (ty := .int) (by decide +kernel) rfl rfl ⟨by omega, by omega⟩ dX8_go_327 (fun h24 eh24 => ?_)
                have frh24 : Fr [39] hi h24 := (Fr.put frh23 eh24 (by decide))
                have ff39h24 : FF 39 [10, 11, 12, 13, 14] hi h24 := FF.put ff39h23 eh24 (by decide)
                refine z_aload_n (pc := 330) (x := 40) dX8_go_330 rfl 1 rfl ?_
                refine z_iload_n (pc := 331) dX8_go_331 rfl 0 rfl ?_
                refine z_bipush (pc := 332) (v := 43) dX8_go_332 (by decide +kernel) ?_
                refine z_icmp_eq (pc := 334) (tgt := 379) dX8_go_334 (by decide) ⟨by omega, by omega⟩ ⟨by decide, by decide⟩ (fun c25 => ?_) (fun c25 => ?_)
                · refine z_iconst (pc := 379) (v := 3) dX8_go_379 rfl ?_
                  refine z_goto (pc := 380) (tgt := 384) dX8_go_380 (by decide) ?_
                  refine z_putI (pc := 384) (pl := 39) (f := 12) (ci := 7) (C := RX8) (T := TX8) (N := 33) hu_X8 tyX8_ok nmX8 (by decide) rfl rfl (by decide) rfl (List.mem_cons_of_mem _ (iw27 _ (List.mem_of_getElem? (i := 2) rfl))) rfl rfl (ty := .int) (by decide +kernel) rfl rfl ⟨by decide, by decide⟩ dX8_go_384 (fun h26 eh26 => ?_)
                  have frh26 : Fr [39] hi h26 := (Fr.put frh24 eh26 (by decide))
                  have ff39h26 : FF 39 [10, 11, 12, 13, 14] hi h26 := FF.put ff39h24 eh26 (by decide)
                  refine z_vret (pc := 387) rfl dX8_go_387 ?_
                  exact hQ h26 ⟨frh26, ff39h26, by first | exact go_e (p := hk 39 11) (by omega) i1 (by omega) (by rw [(by rw [(by rw [eh26]; rfl : h26 39 10 = h24 39 10), (by rw [eh24]; rfl : h24 39 10 = h23 39 10), (by rw [eh23]; rfl : h23 39 10 = h13 39 10), (by rw [eh13]; rfl : h13 39 10 = h12 39 10), (by rw [eh12]; rfl : h12 39 10 = h11 39 10), (by rw [eh11]; rfl : h11 39 10 = v10)] : h26 39 10 = v10)]; omega) (by rw [(by rw [(by rw [eh26]; rfl : h26 39 11 = h24 39 11), (by rw [eh24]; rfl : h24 39 11 = h23 39 11), (by rw [eh23]; rfl : h23 39 11 = v22)] : h26 39 11 = v22)]) (by rw [(by rw [eh26]; rfl : h26 39 12 = 3)] : h26 39 12 = 3) (by omega) | exact go_s (p := hk 39 11) (by omega) i1 (by omega) (by omega) (by omega) (by omega) (by omega) (by rw [(by rw [(by rw [eh26]; rfl : h26 39 10 = h24 39 10), (by rw [eh24]; rfl : h24 39 10 = h23 39 10), (by rw [eh23]; rfl : h23 39 10 = h13 39 10), (by rw [eh13]; rfl : h13 39 10 = h12 39 10), (by rw [eh12]; rfl : h12 39 10 = h11 39 10), (by rw [eh11]; rfl : h11 39 10 = v10)] : h26 39 10 = v10)]; omega) (by rw [(by rw [eh26]; rfl : h26 39 11 = h24 39 11), (by rw [eh24]; rfl : h24 39 11 = h23 39 11), (by rw [eh23]; rfl : h23 39 11 = v22)] : h26 39 11 = v22) (by rw [(by rw [eh26]; rfl : h26 39 12 = 3)] : h26 39 12 = 3) (by rw [(by rw [eh26]; rfl : h26 39 13 = h24 39 13), (by rw [eh24]; rfl : h24 39 13 = v15)] : h26 39 13 = v15) (by omega) | exact go_w (p := hk 39 11) (by omega) i1 (by omega) (by omega) (by omega) j1 (by omega) j2 (by rw [(by rw [(by rw [eh26]; rfl : h26 39 10 = h24 39 10), (by rw [eh24]; rfl : h24 39 10 = h23 39 10), (by rw [eh23]; rfl : h23 39 10 = h13 39 10), (by rw [eh13]; rfl : h13 39 10 = h12 39 10), (by rw [eh12]; rfl : h12 39 10 = h11 39 10), (by rw [eh11]; rfl : h11 39 10 = v10)] : h26 39 10 = v10)]; omega) (by rw [(by rw [(by rw [eh26]; rfl : h26 39 11 = h24 39 11), (by rw [eh24]; rfl : h24 39 11 = h23 39 11), (by rw [eh23]; rfl : h23 39 11 = v22)] : h26 39 11 = v22)]) (by rw [(by rw [eh26]; rfl : h26 39 12 = 3)] : h26 39 12 = 3) (by rw [(by rw [(by rw [eh26]; rfl : h26 39 14 = h24 39 14), (by rw [eh24]; rfl : h24 39 14 = h23 39 14), (by rw [eh23]; rfl : h23 39 14 = h13 39 14), (by rw [eh13]; rfl : h13 39 14 = 0)] : h26 39 14 = 0)]) (by split <;> omega) | exact go_d (p := hk 39 11) (by omega) i1 (by omega) (by omega) (by omega) j1 (by omega) j2 (by rw [(by rw [(by rw [eh26]; rfl : h26 39 10 = h24 39 10), (by rw [eh24]; rfl : h24 39 10 = h23 39 10), (by rw [eh23]; rfl : h23 39 10 = h13 39 10), (by rw [eh13]; rfl : h13 39 10 = h12 39 10), (by rw [eh12]; rfl : h12 39 10 = h11 39 10), (by rw [eh11]; rfl : h11 39 10 = v10)] : h26 39 10 = v10)]; omega) (by rw [(by rw [(by rw [eh26]; rfl : h26 39 11 = h24 39 11), (by rw [eh24]; rfl : h24 39 11 = h23 39 11), (by rw [eh23]; rfl : h23 39 11 = v22)] : h26 39 11 = v22)]) (by rw [(by rw [eh26]; rfl : h26 39 12 = 3)] : h26 39 12 = 3) (by rw [(by rw [(by rw [eh26]; rfl : h26 39 13 = h24 39 13), (by rw [eh24]; rfl : h24 39 13 = v15)] : h26 39 13 = v15)]) (by split <;> omega)⟩
                · refine z_iload_n (pc := 337) dX8_go_337 rfl 0 rfl ?_
                  refine z_bipush (pc := 338) (v := 45) dX8_go_338 (by decide +kernel) ?_
                  refine z_icmp_eq (pc := 340) (tgt := 379) dX8_go_340 (by decide) ⟨by omega, by omega⟩ ⟨by decide, by decide⟩ (fun c27 => ?_) (fun c27 => ?_)
                  · refine z_iconst (pc := 379) (v := 3) dX8_go_379 rfl ?_
                    refine z_goto (pc := 380) (tgt := 384) dX8_go_380 (by decide) ?_
                    refine z_putI (pc := 384) (pl := 39) (f := 12) (ci := 7) (C := RX8) (T := TX8) (N := 33) hu_X8 tyX8_ok nmX8 (by decide) rfl rfl (by decide) rfl (List.mem_cons_of_mem _ (iw27 _ (List.mem_of_getElem? (i := 2) rfl))) rfl rfl (ty := .int) (by decide +kernel) rfl rfl ⟨by decide, by decide⟩ dX8_go_384 (fun h28 eh28 => ?_)
                    have frh28 : Fr [39] hi h28 := (Fr.put frh24 eh28 (by decide))
                    have ff39h28 : FF 39 [10, 11, 12, 13, 14] hi h28 := FF.put ff39h24 eh28 (by decide)
                    refine z_vret (pc := 387) rfl dX8_go_387 ?_
                    exact hQ h28 ⟨frh28, ff39h28, by first | exact go_e (p := hk 39 11) (by omega) i1 (by omega) (by rw [(by rw [(by rw [eh28]; rfl : h28 39 10 = h24 39 10), (by rw [eh24]; rfl : h24 39 10 = h23 39 10), (by rw [eh23]; rfl : h23 39 10 = h13 39 10), (by rw [eh13]; rfl : h13 39 10 = h12 39 10), (by rw [eh12]; rfl : h12 39 10 = h11 39 10), (by rw [eh11]; rfl : h11 39 10 = v10)] : h28 39 10 = v10)]; omega) (by rw [(by rw [(by rw [eh28]; rfl : h28 39 11 = h24 39 11), (by rw [eh24]; rfl : h24 39 11 = h23 39 11), (by rw [eh23]; rfl : h23 39 11 = v22)] : h28 39 11 = v22)]) (by rw [(by rw [eh28]; rfl : h28 39 12 = 3)] : h28 39 12 = 3) (by omega) | exact go_s (p := hk 39 11) (by omega) i1 (by omega) (by omega) (by omega) (by omega) (by omega) (by rw [(by rw [(by rw [eh28]; rfl : h28 39 10 = h24 39 10), (by rw [eh24]; rfl : h24 39 10 = h23 39 10), (by rw [eh23]; rfl : h23 39 10 = h13 39 10), (by rw [eh13]; rfl : h13 39 10 = h12 39 10), (by rw [eh12]; rfl : h12 39 10 = h11 39 10), (by rw [eh11]; rfl : h11 39 10 = v10)] : h28 39 10 = v10)]; omega) (by rw [(by rw [eh28]; rfl : h28 39 11 = h24 39 11), (by rw [eh24]; rfl : h24 39 11 = h23 39 11), (by rw [eh23]; rfl : h23 39 11 = v22)] : h28 39 11 = v22) (by rw [(by rw [eh28]; rfl : h28 39 12 = 3)] : h28 39 12 = 3) (by rw [(by rw [eh28]; rfl : h28 39 13 = h24 39 13), (by rw [eh24]; rfl : h24 39 13 = v15)] : h28 39 13 = v15) (by omega) | exact go_w (p := hk 39 11) (by omega) i1 (by omega) (by omega) (by omega) j1 (by omega) j2 (by rw [(by rw [(by rw [eh28]; rfl : h28 39 10 = h24 39 10), (by rw [eh24]; rfl : h24 39 10 = h23 39 10), (by rw [eh23]; rfl : h23 39 10 = h13 39 10), (by rw [eh13]; rfl : h13 39 10 = h12 39 10), (by rw [eh12]; rfl : h12 39 10 = h11 39 10), (by rw [eh11]; rfl : h11 39 10 = v10)] : h28 39 10 = v10)]; omega) (by rw [(by rw [(by rw [eh28]; rfl : h28 39 11 = h24 39 11), (by rw [eh24]; rfl : h24 39 11 = h23 39 11), (by rw [eh23]; rfl : h23 39 11 = v22)] : h28 39 11 = v22)]) (by rw [(by rw [eh28]; rfl : h28 39 12 = 3)] : h28 39 12 = 3) (by rw [(by rw [(by rw [eh28]; rfl : h28 39 14 = h24 39 14), (by rw [eh24]; rfl : h24 39 14 = h23 39 14), (by rw [eh23]; rfl : h23 39 14 = h13 39 14), (by rw [eh13]; rfl : h13 39 14 = 0)] : h28 39 14 = 0)]) (by split <;> omega) | exact go_d (p := hk 39 11) (by omega) i1 (by omega) (by omega) (by omega) j1 (by omega) j2 (by rw [(by rw [(by rw [eh28]; rfl : h28 39 10 = h24 39 10), (by rw [eh24]; rfl : h24 39 10 = h23 39 10), (by rw [eh23]; rfl : h23 39 10 = h13 39 10), (by rw [eh13]; rfl : h13 39 10 = h12 39 10), (by rw [eh12]; rfl : h12 39 10 = h11 39 10), (by rw [eh11]; rfl : h11 39 10 = v10)] : h28 39 10 = v10)]; omega) (by rw [(by rw [(by rw [eh28]; rfl : h28 39 11 = h24 39 11), (by rw [eh24]; rfl : h24 39 11 = h23 39 11), (by rw [eh23]; rfl : h23 39 11 = v22)] : h28 39 11 = v22)]) (by rw [(by rw [eh28]; rfl : h28 39 12 = 3)] : h28 39 12 = 3) (by rw [(by rw [(by rw [eh28]; rfl : h28 39 13 = h24 39 13), (by rw [eh24]; rfl : h24 39 13 = v15)] : h28 39 13 = v15)]) (by split <;> omega)⟩
                  · refine z_iload_n (pc := 343) dX8_go_343 rfl 0 rfl ?_
                    refine z_bipush (pc := 344) (v := 60) dX8_go_344 (by decide +kernel) ?_
                    refine z_icmp_eq (pc := 346) (tgt := 379) dX8_go_346 (by decide) ⟨by omega, by omega⟩ ⟨by decide, by decide⟩ (fun c29 => ?_) (fun c29 => ?_)
                    · refine z_iconst (pc := 379) (v := 3) dX8_go_379 rfl ?_
                      refine z_goto (pc := 380) (tgt := 384) dX8_go_380 (by decide) ?_
                      refine z_putI (pc := 384) (pl := 39) (f := 12) (ci := 7) (C := RX8) (T := TX8) (N := 33) hu_X8 tyX8_ok nmX8 (by decide) rfl rfl (by decide) rfl (List.mem_cons_of_mem _ (iw27 _ (List.mem_of_getElem? (i := 2) rfl))) rfl rfl (ty := .int) (by decide +kernel) rfl rfl ⟨by decide, by decide⟩ dX8_go_384 (fun h30 eh30 => ?_)
                      have frh30 : Fr [39] hi h30 := (Fr.put frh24 eh30 (by decide))
                      have ff39h30 : FF 39 [10, 11, 12, 13, 14] hi h30 := FF.put ff39h24 eh30 (by decide)
                      refine z_vret (pc := 387) rfl dX8_go_387 ?_
                      exact hQ h30 ⟨frh30, ff39h30, by first | exact go_e (p := hk 39 11) (by omega) i1 (by omega) (by rw [(by rw [(by rw [eh30]; rfl : h30 39 10 = h24 39 10), (by rw [eh24]; rfl : h24 39 10 = h23 39 10), (by rw [eh23]; rfl : h23 39 10 = h13 39 10), (by rw [eh13]; rfl : h13 39 10 = h12 39 10), (by rw [eh12]; rfl : h12 39 10 = h11 39 10), (by rw [eh11]; rfl : h11 39 10 = v10)] : h30 39 10 = v10)]; omega) (by rw [(by rw [(by rw [eh30]; rfl : h30 39 11 = h24 39 11), (by rw [eh24]; rfl : h24 39 11 = h23 39 11), (by rw [eh23]; rfl : h23 39 11 = v22)] : h30 39 11 = v22)]) (by rw [(by rw [eh30]; rfl : h30 39 12 = 3)] : h30 39 12 = 3) (by omega) | exact go_s (p := hk 39 11) (by omega) i1 (by omega) (by omega) (by omega) (by omega) (by omega) (by rw [(by rw [(by rw [eh30]; rfl : h30 39 10 = h24 39 10), (by rw [eh24]; rfl : h24 39 10 = h23 39 10), (by rw [eh23]; rfl : h23 39 10 = h13 39 10), (by rw [eh13]; rfl : h13 39 10 = h12 39 10), (by rw [eh12]; rfl : h12 39 10 = h11 39 10), (by rw [eh11]; rfl : h11 39 10 = v10)] : h30 39 10 = v10)]; omega) (by rw [(by rw [eh30]; rfl : h30 39 11 = h24 39 11), (by rw [eh24]; rfl : h24 39 11 = h23 39 11), (by rw [eh23]; rfl : h23 39 11 = v22)] : h30 39 11 = v22) (by rw [(by rw [eh30]; rfl : h30 39 12 = 3)] : h30 39 12 = 3) (by rw [(by rw [eh30]; rfl : h30 39 13 = h24 39 13), (by rw [eh24]; rfl : h24 39 13 = v15)] : h30 39 13 = v15) (by omega) | exact go_w (p := hk 39 11) (by omega) i1 (by omega) (by omega) (by omega) j1 (by omega) j2 (by rw [(by rw [(by rw [eh30]; rfl : h30 39 10 = h24 39 10), (by rw [eh24]; rfl : h24 39 10 = h23 39 10), (by rw [eh23]; rfl : h23 39 10 = h13 39 10), (by rw [eh13]; rfl : h13 39 10 = h12 39 10), (by rw [eh12]; rfl : h12 39 10 = h11 39 10), (by rw [eh11]; rfl : h11 39 10 = v10)] : h30 39 10 = v10)]; omega) (by rw [(by rw [(by rw [eh30]; rfl : h30 39 11 = h24 39 11), (by rw [eh24]; rfl : h24 39 11 = h23 39 11), (by rw [eh23]; rfl : h23 39 11 = v22)] : h30 39 11 = v22)]) (by rw [(by rw [eh30]; rfl : h30 39 12 = 3)] : h30 39 12 = 3) (by rw [(by rw [(by rw [eh30]; rfl : h30 39 14 = h24 39 14), (by rw [eh24]; rfl : h24 39 14 = h23 39 14), (by rw [eh23]; rfl : h23 39 14 = h13 39 14), (by rw [eh13]; rfl : h13 39 14 = 0)] : h30 39 14 = 0)]) (by split <;> omega) | exact go_d (p := hk 39 11) (by omega) i1 (by omega) (by omega) (by omega) j1 (by omega) j2 (by rw [(by rw [(by rw [eh30]; rfl : h30 39 10 = h24 39 10), (by rw [eh24]; rfl : h24 39 10 = h23 39 10), (by rw [eh23]; rfl : h23 39 10 = h13 39 10), (by rw [eh13]; rfl : h13 39 10 = h12 39 10), (by rw [eh12]; rfl : h12 39 10 = h11 39 10), (by rw [eh11]; rfl : h11 39 10 = v10)] : h30 39 10 = v10)]; omega) (by rw [(by rw [(by rw [eh30]; rfl : h30 39 11 = h24 39 11), (by rw [eh24]; rfl : h24 39 11 = h23 39 11), (by rw [eh23]; rfl : h23 39 11 = v22)] : h30 39 11 = v22)]) (by rw [(by rw [eh30]; rfl : h30 39 12 = 3)] : h30 39 12 = 3) (by rw [(by rw [(by rw [eh30]; rfl : h30 39 13 = h24 39 13), (by rw [eh24]; rfl : h24 39 13 = v15)] : h30 39 13 = v15)]) (by split <;> omega)⟩
                    · refine z_iload_n (pc := 349) dX8_go_349 rfl 0 rfl ?_
                      refine z_bipush (pc := 350) (v := 61) dX8_go_350 (by decide +kernel) ?_
                      refine z_icmp_eq (pc := 352) (tgt := 379) dX8_go_352 (by decide) ⟨by omega, by omega⟩ ⟨by decide, by decide⟩ (fun c31 => ?_) (fun c31 => ?_)
                      · refine z_iconst (pc := 379) (v := 3) dX8_go_379 rfl ?_
                        refine z_goto (pc := 380) (tgt := 384) dX8_go_380 (by decide) ?_
                        refine z_putI (pc := 384) (pl := 39) (f := 12) (ci := 7) (C := RX8) (T := TX8) (N := 33) hu_X8 tyX8_ok nmX8 (by decide) rfl rfl (by decide) rfl (List.mem_cons_of_mem _ (iw27 _ (List.mem_of_getElem? (i := 2) rfl))) rfl rfl (ty := .int) (by decide +kernel) rfl rfl ⟨by decide, by decide⟩ dX8_go_384 (fun h32 eh32 => ?_)
                        have frh32 : Fr [39] hi h32 := (Fr.put frh24 eh32 (by decide))
                        have ff39h32 : FF 39 [10, 11, 12, 13, 14] hi h32 := FF.put ff39h24 eh32 (by decide)
                        refine z_vret (pc := 387) rfl dX8_go_387 ?_
                        exact hQ h32 ⟨frh32, ff39h32, by first | exact go_e (p := hk 39 11) (by omega) i1 (by omega) (by rw [(by rw [(by rw [eh32]; rfl : h32 39 10 = h24 39 10), (by rw [eh24]; rfl : h24 39 10 = h23 39 10), (by rw [eh23]; rfl : h23 39 10 = h13 39 10), (by rw [eh13]; rfl : h13 39 10 = h12 39 10), (by rw [eh12]; rfl : h12 39 10 = h11 39 10), (by rw [eh11]; rfl : h11 39 10 = v10)] : h32 39 10 = v10)]; omega) (by rw [(by rw [(by rw [eh32]; rfl : h32 39 11 = h24 39 11), (by rw [eh24]; rfl : h24 39 11 = h23 39 11), (by rw [eh23]; rfl : h23 39 11 = v22)] : h32 39 11 = v22)]) (by rw [(by rw [eh32]; rfl : h32 39 12 = 3)] : h32 39 12 = 3) (by omega) | exact go_s (p := hk 39 11) (by omega) i1 (by omega) (by omega) (by omega) (by omega) (by omega) (by rw [(by rw [(by rw [eh32]; rfl : h32 39 10 = h24 39 10), (by rw [eh24]; rfl : h24 39 10 = h23 39 10), (by rw [eh23]; rfl : h23 39 10 = h13 39 10), (by rw [eh13]; rfl : h13 39 10 = h12 39 10), (by rw [eh12]; rfl : h12 39 10 = h11 39 10), (by rw [eh11]; rfl : h11 39 10 = v10)] : h32 39 10 = v10)]; omega) (by rw [(by rw [eh32]; rfl : h32 39 11 = h24 39 11), (by rw [eh24]; rfl : h24 39 11 = h23 39 11), (by rw [eh23]; rfl : h23 39 11 = v22)] : h32 39 11 = v22) (by rw [(by rw [eh32]; rfl : h32 39 12 = 3)] : h32 39 12 = 3) (by rw [(by rw [eh32]; rfl : h32 39 13 = h24 39 13), (by rw [eh24]; rfl : h24 39 13 = v15)] : h32 39 13 = v15) (by omega) | exact go_w (p := hk 39 11) (by omega) i1 (by omega) (by omega) (by omega) j1 (by omega) j2 (by rw [(by rw [(by rw [eh32]; rfl : h32 39 10 = h24 39 10), (by rw [eh24]; rfl : h24 39 10 = h23 39 10), (by rw [eh23]; rfl : h23 39 10 = h13 39 10), (by rw [eh13]; rfl : h13 39 10 = h12 39 10), (by rw [eh12]; rfl : h12 39 10 = h11 39 10), (by rw [eh11]; rfl : h11 39 10 = v10)] : h32 39 10 = v10)]; omega) (by rw [(by rw [(by rw [eh32]; rfl : h32 39 11 = h24 39 11), (by rw [eh24]; rfl : h24 39 11 = h23 39 11), (by rw [eh23]; rfl : h23 39 11 = v22)] : h32 39 11 = v22)]) (by rw [(by rw [eh32]; rfl : h32 39 12 = 3)] : h32 39 12 = 3) (by rw [(by rw [(by rw [eh32]; rfl : h32 39 14 = h24 39 14), (by rw [eh24]; rfl : h24 39 14 = h23 39 14), (by rw [eh23]; rfl : h23 39 14 = h13 39 14), (by rw [eh13]; rfl : h13 39 14 = 0)] : h32 39 14 = 0)]) (by split <;> omega) | exact go_d (p := hk 39 11) (by omega) i1 (by omega) (by omega) (by omega) j1 (by omega) j2 (by rw [(by rw [(by rw [eh32]; rfl : h32 39 10 = h24 39 10), (by rw [eh24]; rfl : h24 39 10 = h23 39 10), (by rw [eh23]; rfl : h23 39 10 = h13 39 10), (by rw [eh13]; rfl : h13 39 10 = h12 39 10), (by rw [eh12]; rfl : h12 39 10 = h11 39 10), (by rw [eh11]; rfl : h11 39 10 = v10)] : h32 39 10 = v10)]; omega) (by rw [(by rw [(by rw [eh32]; rfl : h32 39 11 = h24 39 11), (by rw [eh24]; rfl : h24 39 11 = h23 39 11), (by rw [eh23]; rfl : h23 39 11 = v22)] : h32 39 11 = v22)]) (by rw [(by rw [eh32]; rfl : h32 39 12 = 3)] : h32 39 12 = 3) (by rw [(by rw [(by rw [eh32]; rfl : h32 39 13 = h24 39 13), (by rw [eh24]; rfl : h24 39 13 = v15)] : h32 39 13 = v15)]) (by split <;> omega)⟩
                      · refine z_iload_n (pc := 355) dX8_go_355 rfl 0 rfl ?_
                        refine z_bipush (pc := 356) (v := 62) dX8_go_356 (by decide +kernel) ?_
                        refine z_icmp_eq (pc := 358) (tgt := 379) dX8_go_358 (by decide) ⟨by omega, by omega⟩ ⟨by decide, by decide⟩ (fun c33 => ?_) (fun c33 => ?_)
                        · refine z_iconst (pc := 379) (v := 3) dX8_go_379 rfl ?_
                          refine z_goto (pc := 380) (tgt := 384) dX8_go_380 (by decide) ?_
                          refine z_putI (pc := 384) (pl := 39) (f := 12) (ci := 7) (C := RX8) (T := TX8) (N := 33) hu_X8 tyX8_ok nmX8 (by decide) rfl rfl (by decide) rfl (List.mem_cons_of_mem _ (iw27 _ (List.mem_of_getElem? (i := 2) rfl))) rfl rfl (ty := .int) (by decide +kernel) rfl rfl ⟨by decide, by decide⟩ dX8_go_384 (fun h34 eh34 => ?_)
                          have frh34 : Fr [39] hi h34 := (Fr.put frh24 eh34 (by decide))
                          have ff39h34 : FF 39 [10, 11, 12, 13, 14] hi h34 := FF.put ff39h24 eh34 (by decide)
                          refine z_vret (pc := 387) rfl dX8_go_387 ?_
                          exact hQ h34 ⟨frh34, ff39h34, by first | exact go_e (p := hk 39 11) (by omega) i1 (by omega) (by rw [(by rw [(by rw [eh34]; rfl : h34 39 10 = h24 39 10), (by rw [eh24]; rfl : h24 39 10 = h23 39 10), (by rw [eh23]; rfl : h23 39 10 = h13 39 10), (by rw [eh13]; rfl : h13 39 10 = h12 39 10), (by rw [eh12]; rfl : h12 39 10 = h11 39 10), (by rw [eh11]; rfl : h11 39 10 = v10)] : h34 39 10 = v10)]; omega) (by rw [(by rw [(by rw [eh34]; rfl : h34 39 11 = h24 39 11), (by rw [eh24]; rfl : h24 39 11 = h23 39 11), (by rw [eh23]; rfl : h23 39 11 = v22)] : h34 39 11 = v22)]) (by rw [(by rw [eh34]; rfl : h34 39 12 = 3)] : h34 39 12 = 3) (by omega) | exact go_s (p := hk 39 11) (by omega) i1 (by omega) (by omega) (by omega) (by omega) (by omega) (by rw [(by rw [(by rw [eh34]; rfl : h34 39 10 = h24 39 10), (by rw [eh24]; rfl : h24 39 10 = h23 39 10), (by rw [eh23]; rfl : h23 39 10 = h13 39 10), (by rw [eh13]; rfl : h13 39 10 = h12 39 10), (by rw [eh12]; rfl : h12 39 10 = h11 39 10), (by rw [eh11]; rfl : h11 39 10 = v10)] : h34 39 10 = v10)]; omega) (by rw [(by rw [eh34]; rfl : h34 39 11 = h24 39 11), (by rw [eh24]; rfl : h24 39 11 = h23 39 11), (by rw [eh23]; rfl : h23 39 11 = v22)] : h34 39 11 = v22) (by rw [(by rw [eh34]; rfl : h34 39 12 = 3)] : h34 39 12 = 3) (by rw [(by rw [eh34]; rfl : h34 39 13 = h24 39 13), (by rw [eh24]; rfl : h24 39 13 = v15)] : h34 39 13 = v15) (by omega) | exact go_w (p := hk 39 11) (by omega) i1 (by omega) (by omega) (by omega) j1 (by omega) j2 (by rw [(by rw [(by rw [eh34]; rfl : h34 39 10 = h24 39 10), (by rw [eh24]; rfl : h24 39 10 = h23 39 10), (by rw [eh23]; rfl : h23 39 10 = h13 39 10), (by rw [eh13]; rfl : h13 39 10 = h12 39 10), (by rw [eh12]; rfl : h12 39 10 = h11 39 10), (by rw [eh11]; rfl : h11 39 10 = v10)] : h34 39 10 = v10)]; omega) (by rw [(by rw [(by rw [eh34]; rfl : h34 39 11 = h24 39 11), (by rw [eh24]; rfl : h24 39 11 = h23 39 11), (by rw [eh23]; rfl : h23 39 11 = v22)] : h34 39 11 = v22)]) (by rw [(by rw [eh34]; rfl : h34 39 12 = 3)] : h34 39 12 = 3) (by rw [(by rw [(by rw [eh34]; rfl : h34 39 14 = h24 39 14), (by rw [eh24]; rfl : h24 39 14 = h23 39 14), (by rw [eh23]; rfl : h23 39 14 = h13 39 14), (by rw [eh13]; rfl : h13 39 14 = 0)] : h34 39 14 = 0)]) (by split <;> omega) | exact go_d (p := hk 39 11) (by omega) i1 (by omega) (by omega) (by omega) j1 (by omega) j2 (by rw [(by rw [(by rw [eh34]; rfl : h34 39 10 = h24 39 10), (by rw [eh24]; rfl : h24 39 10 = h23 39 10), (by rw [eh23]; rfl : h23 39 10 = h13 39 10), (by rw [eh13]; rfl : h13 39 10 = h12 39 10), (by rw [eh12]; rfl : h12 39 10 = h11 39 10), (by rw [eh11]; rfl : h11 39 10 = v10)] : h34 39 10 = v10)]; omega) (by rw [(by rw [(by rw [eh34]; rfl : h34 39 11 = h24 39 11), (by rw [eh24]; rfl : h24 39 11 = h23 39 11), (by rw [eh23]; rfl : h23 39 11 = v22)] : h34 39 11 = v22)]) (by rw [(by rw [eh34]; rfl : h34 39 12 = 3)] : h34 39 12 = 3) (by rw [(by rw [(by rw [eh34]; rfl : h34 39 13 = h24 39 13), (by rw [eh24]; rfl : h24 39 13 = v15)] : h34 39 13 = v15)]) (by split <;> omega)⟩
                        · refine z_iload_n (pc := 361) dX8_go_361 rfl 0 rfl ?_
                          refine z_bipush (pc := 362) (v := 40) dX8_go_362 (by decide +kernel) ?_
                          refine z_icmp_eq (pc := 364) (tgt := 379) dX8_go_364 (by decide) ⟨by omega, by omega⟩ ⟨by decide, by decide⟩ (fun c35 => ?_) (fun c35 => ?_)
                          · refine z_iconst (pc := 379) (v := 3) dX8_go_379 rfl ?_
                            refine z_goto (pc := 380) (tgt := 384) dX8_go_380 (by decide) ?_
                            refine z_putI (pc := 384) (pl := 39) (f := 12) (ci := 7) (C := RX8) (T := TX8) (N := 33) hu_X8 tyX8_ok nmX8 (by decide) rfl rfl (by decide) rfl (List.mem_cons_of_mem _ (iw27 _ (List.mem_of_getElem? (i := 2) rfl))) rfl rfl (ty := .int) (by decide +kernel) rfl rfl ⟨by decide, by decide⟩ dX8_go_384 (fun h36 eh36 => ?_)
                            have frh36 : Fr [39] hi h36 := (Fr.put frh24 eh36 (by decide))
                            have ff39h36 : FF 39 [10, 11, 12, 13, 14] hi h36 := FF.put ff39h24 eh36 (by decide)
                            refine z_vret (pc := 387) rfl dX8_go_387 ?_
                            exact hQ h36 ⟨frh36, ff39h36, by first | exact go_e (p := hk 39 11) (by omega) i1 (by omega) (by rw [(by rw [(by rw [eh36]; rfl : h36 39 10 = h24 39 10), (by rw [eh24]; rfl : h24 39 10 = h23 39 10), (by rw [eh23]; rfl : h23 39 10 = h13 39 10), (by rw [eh13]; rfl : h13 39 10 = h12 39 10), (by rw [eh12]; rfl : h12 39 10 = h11 39 10), (by rw [eh11]; rfl : h11 39 10 = v10)] : h36 39 10 = v10)]; omega) (by rw [(by rw [(by rw [eh36]; rfl : h36 39 11 = h24 39 11), (by rw [eh24]; rfl : h24 39 11 = h23 39 11), (by rw [eh23]; rfl : h23 39 11 = v22)] : h36 39 11 = v22)]) (by rw [(by rw [eh36]; rfl : h36 39 12 = 3)] : h36 39 12 = 3) (by omega) | exact go_s (p := hk 39 11) (by omega) i1 (by omega) (by omega) (by omega) (by omega) (by omega) (by rw [(by rw [(by rw [eh36]; rfl : h36 39 10 = h24 39 10), (by rw [eh24]; rfl : h24 39 10 = h23 39 10), (by rw [eh23]; rfl : h23 39 10 = h13 39 10), (by rw [eh13]; rfl : h13 39 10 = h12 39 10), (by rw [eh12]; rfl : h12 39 10 = h11 39 10), (by rw [eh11]; rfl : h11 39 10 = v10)] : h36 39 10 = v10)]; omega) (by rw [(by rw [eh36]; rfl : h36 39 11 = h24 39 11), (by rw [eh24]; rfl : h24 39 11 = h23 39 11), (by rw [eh23]; rfl : h23 39 11 = v22)] : h36 39 11 = v22) (by rw [(by rw [eh36]; rfl : h36 39 12 = 3)] : h36 39 12 = 3) (by rw [(by rw [eh36]; rfl : h36 39 13 = h24 39 13), (by rw [eh24]; rfl : h24 39 13 = v15)] : h36 39 13 = v15) (by omega) | exact go_w (p := hk 39 11) (by omega) i1 (by omega) (by omega) (by omega) j1 (by omega) j2 (by rw [(by rw [(by rw [eh36]; rfl : h36 39 10 = h24 39 10), (by rw [eh24]; rfl : h24 39 10 = h23 39 10), (by rw [eh23]; rfl : h23 39 10 = h13 39 10), (by rw [eh13]; rfl : h13 39 10 = h12 39 10), (by rw [eh12]; rfl : h12 39 10 = h11 39 10), (by rw [eh11]; rfl : h11 39 10 = v10)] : h36 39 10 = v10)]; omega) (by rw [(by rw [(by rw [eh36]; rfl : h36 39 11 = h24 39 11), (by rw [eh24]; rfl : h24 39 11 = h23 39 11), (by rw [eh23]; rfl : h23 39 11 = v22)] : h36 39 11 = v22)]) (by rw [(by rw [eh36]; rfl : h36 39 12 = 3)] : h36 39 12 = 3) (by rw [(by rw [(by rw [eh36]; rfl : h36 39 14 = h24 39 14), (by rw [eh24]; rfl : h24 39 14 = h23 39 14), (by rw [eh23]; rfl : h23 39 14 = h13 39 14), (by rw [eh13]; rfl : h13 39 14 = 0)] : h36 39 14 = 0)]) (by split <;> omega) | exact go_d (p := hk 39 11) (by omega) i1 (by omega) (by omega) (by omega) j1 (by omega) j2 (by rw [(by rw [(by rw [eh36]; rfl : h36 39 10 = h24 39 10), (by rw [eh24]; rfl : h24 39 10 = h23 39 10), (by rw [eh23]; rfl : h23 39 10 = h13 39 10), (by rw [eh13]; rfl : h13 39 10 = h12 39 10), (by rw [eh12]; rfl : h12 39 10 = h11 39 10), (by rw [eh11]; rfl : h11 39 10 = v10)] : h36 39 10 = v10)]; omega) (by rw [(by rw [(by rw [eh36]; rfl : h36 39 11 = h24 39 11), (by rw [eh24]; rfl : h24 39 11 = h23 39 11), (by rw [eh23]; rfl : h23 39 11 = v22)] : h36 39 11 = v22)]) (by rw [(by rw [eh36]; rfl : h36 39 12 = 3)] : h36 39 12 = 3) (by rw [(by rw [(by rw [eh36]; rfl : h36 39 13 = h24 39 13), (by rw [eh24]; rfl : h24 39 13 = v15)] : h36 39 13 = v15)]) (by split <;> omega)⟩
                          · refine z_iload_n (pc := 367) dX8_go_367 rfl 0 rfl ?_
                            refine z_bipush (pc := 368) (v := 41) dX8_go_368 (by decide +kernel) ?_
                            refine z_icmp_eq (pc := 370) (tgt := 379) dX8_go_370 (by decide) ⟨by omega, by omega⟩ ⟨by decide, by decide⟩ (fun c37 => ?_) (fun c37 => ?_)
                            · refine z_iconst (pc := 379) (v := 3) dX8_go_379 rfl ?_
                              refine z_goto (pc := 380) (tgt := 384) dX8_go_380 (by decide) ?_
                              refine z_putI (pc := 384) (pl := 39) (f := 12) (ci := 7) (C := RX8) (T := TX8) (N := 33) hu_X8 tyX8_ok nmX8 (by decide) rfl rfl (by decide) rfl (List.mem_cons_of_mem _ (iw27 _ (List.mem_of_getElem? (i := 2) rfl))) rfl rfl (ty := .int) (by decide +kernel) rfl rfl ⟨by decide, by decide⟩ dX8_go_384 (fun h38 eh38 => ?_)
                              have frh38 : Fr [39] hi h38 := (Fr.put frh24 eh38 (by decide))
                              have ff39h38 : FF 39 [10, 11, 12, 13, 14] hi h38 := FF.put ff39h24 eh38 (by decide)
                              refine z_vret (pc := 387) rfl dX8_go_387 ?_
                              exact hQ h38 ⟨frh38, ff39h38, by first | exact go_e (p := hk 39 11) (by omega) i1 (by omega) (by rw [(by rw [(by rw [eh38]; rfl : h38 39 10 = h24 39 10), (by rw [eh24]; rfl : h24 39 10 = h23 39 10), (by rw [eh23]; rfl : h23 39 10 = h13 39 10), (by rw [eh13]; rfl : h13 39 10 = h12 39 10), (by rw [eh12]; rfl : h12 39 10 = h11 39 10), (by rw [eh11]; rfl : h11 39 10 = v10)] : h38 39 10 = v10)]; omega) (by rw [(by rw [(by rw [eh38]; rfl : h38 39 11 = h24 39 11), (by rw [eh24]; rfl : h24 39 11 = h23 39 11), (by rw [eh23]; rfl : h23 39 11 = v22)] : h38 39 11 = v22)]) (by rw [(by rw [eh38]; rfl : h38 39 12 = 3)] : h38 39 12 = 3) (by omega) | exact go_s (p := hk 39 11) (by omega) i1 (by omega) (by omega) (by omega) (by omega) (by omega) (by rw [(by rw [(by rw [eh38]; rfl : h38 39 10 = h24 39 10), (by rw [eh24]; rfl : h24 39 10 = h23 39 10), (by rw [eh23]; rfl : h23 39 10 = h13 39 10), (by rw [eh13]; rfl : h13 39 10 = h12 39 10), (by rw [eh12]; rfl : h12 39 10 = h11 39 10), (by rw [eh11]; rfl : h11 39 10 = v10)] : h38 39 10 = v10)]; omega) (by rw [(by rw [eh38]; rfl : h38 39 11 = h24 39 11), (by rw [eh24]; rfl : h24 39 11 = h23 39 11), (by rw [eh23]; rfl : h23 39 11 = v22)] : h38 39 11 = v22) (by rw [(by rw [eh38]; rfl : h38 39 12 = 3)] : h38 39 12 = 3) (by rw [(by rw [eh38]; rfl : h38 39 13 = h24 39 13), (by rw [eh24]; rfl : h24 39 13 = v15)] : h38 39 13 = v15) (by omega) | exact go_w (p := hk 39 11) (by omega) i1 (by omega) (by omega) (by omega) j1 (by omega) j2 (by rw [(by rw [(by rw [eh38]; rfl : h38 39 10 = h24 39 10), (by rw [eh24]; rfl : h24 39 10 = h23 39 10), (by rw [eh23]; rfl : h23 39 10 = h13 39 10), (by rw [eh13]; rfl : h13 39 10 = h12 39 10), (by rw [eh12]; rfl : h12 39 10 = h11 39 10), (by rw [eh11]; rfl : h11 39 10 = v10)] : h38 39 10 = v10)]; omega) (by rw [(by rw [(by rw [eh38]; rfl : h38 39 11 = h24 39 11), (by rw [eh24]; rfl : h24 39 11 = h23 39 11), (by rw [eh23]; rfl : h23 39 11 = v22)] : h38 39 11 = v22)]) (by rw [(by rw [eh38]; rfl : h38 39 12 = 3)] : h38 39 12 = 3) (by rw [(by rw [(by rw [eh38]; rfl : h38 39 14 = h24 39 14), (by rw [eh24]; rfl : h24 39 14 = h23 39 14), (by rw [eh23]; rfl : h23 39 14 = h13 39 14), (by rw [eh13]; rfl : h13 39 14 = 0)] : h38 39 14 = 0)]) (by split <;> omega) | exact go_d (p := hk 39 11) (by omega) i1 (by omega) (by omega) (by omega) j1 (by omega) j2 (by rw [(by rw [(by rw [eh38]; rfl : h38 39 10 = h24 39 10), (by rw [eh24]; rfl : h24 39 10 = h23 39 10), (by rw [eh23]; rfl : h23 39 10 = h13 39 10), (by rw [eh13]; rfl : h13 39 10 = h12 39 10), (by rw [eh12]; rfl : h12 39 10 = h11 39 10), (by rw [eh11]; rfl : h11 39 10 = v10)] : h38 39 10 = v10)]; omega) (by rw [(by rw [(by rw [eh38]; rfl : h38 39 11 = h24 39 11), (by rw [eh24]; rfl : h24 39 11 = h23 39 11), (by rw [eh23]; rfl : h23 39 11 = v22)] : h38 39 11 = v22)]) (by rw [(by rw [eh38]; rfl : h38 39 12 = 3)] : h38 39 12 = 3) (by rw [(by rw [(by rw [eh38]; rfl : h38 39 13 = h24 39 13), (by rw [eh24]; rfl : h24 39 13 = v15)] : h38 39 13 = v15)]) (by split <;> omega)⟩
                            · refine z_iload_n (pc := 373) dX8_go_373 rfl 0 rfl ?_
                              refine z_bipush (pc := 374) (v := 59) dX8_go_374 (by decide +kernel) ?_
                              refine z_icmp_ne (pc := 376) (tgt := 383) dX8_go_376 (by decide) ⟨by omega, by omega⟩ ⟨by decide, by decide⟩ (fun c39 => ?_) (fun c39 => ?_)
                              · refine z_iconst (pc := 383) (v := 4) dX8_go_383 rfl ?_
                                refine z_putI (pc := 384) (pl := 39) (f := 12) (ci := 7) (C := RX8) (T := TX8) (N := 33) hu_X8 tyX8_ok nmX8 (by decide) rfl rfl (by decide) rfl (List.mem_cons_of_mem _ (iw27 _ (List.mem_of_getElem? (i := 2) rfl))) rfl rfl (ty := .int) (by decide +kernel) rfl rfl ⟨by decide, by decide⟩ dX8_go_384 (fun h40 eh40 => ?_)
                                have frh40 : Fr [39] hi h40 := (Fr.put frh24 eh40 (by decide))
                                have ff39h40 : FF 39 [10, 11, 12, 13, 14] hi h40 := FF.put ff39h24 eh40 (by decide)
                                refine z_vret (pc := 387) rfl dX8_go_387 ?_
                                exact hQ h40 ⟨frh40, ff39h40, by first | exact go_e (p := hk 39 11) (by omega) i1 (by omega) (by rw [(by rw [(by rw [eh40]; rfl : h40 39 10 = h24 39 10), (by rw [eh24]; rfl : h24 39 10 = h23 39 10), (by rw [eh23]; rfl : h23 39 10 = h13 39 10), (by rw [eh13]; rfl : h13 39 10 = h12 39 10), (by rw [eh12]; rfl : h12 39 10 = h11 39 10), (by rw [eh11]; rfl : h11 39 10 = v10)] : h40 39 10 = v10)]; omega) (by rw [(by rw [(by rw [eh40]; rfl : h40 39 11 = h24 39 11), (by rw [eh24]; rfl : h24 39 11 = h23 39 11), (by rw [eh23]; rfl : h23 39 11 = v22)] : h40 39 11 = v22)]) (by rw [(by rw [eh40]; rfl : h40 39 12 = 4)] : h40 39 12 = 4) (by omega) | exact go_s (p := hk 39 11) (by omega) i1 (by omega) (by omega) (by omega) (by omega) (by omega) (by rw [(by rw [(by rw [eh40]; rfl : h40 39 10 = h24 39 10), (by rw [eh24]; rfl : h24 39 10 = h23 39 10), (by rw [eh23]; rfl : h23 39 10 = h13 39 10), (by rw [eh13]; rfl : h13 39 10 = h12 39 10), (by rw [eh12]; rfl : h12 39 10 = h11 39 10), (by rw [eh11]; rfl : h11 39 10 = v10)] : h40 39 10 = v10)]; omega) (by rw [(by rw [eh40]; rfl : h40 39 11 = h24 39 11), (by rw [eh24]; rfl : h24 39 11 = h23 39 11), (by rw [eh23]; rfl : h23 39 11 = v22)] : h40 39 11 = v22) (by rw [(by rw [eh40]; rfl : h40 39 12 = 4)] : h40 39 12 = 4) (by rw [(by rw [eh40]; rfl : h40 39 13 = h24 39 13), (by rw [eh24]; rfl : h24 39 13 = v15)] : h40 39 13 = v15) (by omega) | exact go_w (p := hk 39 11) (by omega) i1 (by omega) (by omega) (by omega) j1 (by omega) j2 (by rw [(by rw [(by rw [eh40]; rfl : h40 39 10 = h24 39 10), (by rw [eh24]; rfl : h24 39 10 = h23 39 10), (by rw [eh23]; rfl : h23 39 10 = h13 39 10), (by rw [eh13]; rfl : h13 39 10 = h12 39 10), (by rw [eh12]; rfl : h12 39 10 = h11 39 10), (by rw [eh11]; rfl : h11 39 10 = v10)] : h40 39 10 = v10)]; omega) (by rw [(by rw [(by rw [eh40]; rfl : h40 39 11 = h24 39 11), (by rw [eh24]; rfl : h24 39 11 = h23 39 11), (by rw [eh23]; rfl : h23 39 11 = v22)] : h40 39 11 = v22)]) (by rw [(by rw [eh40]; rfl : h40 39 12 = 4)] : h40 39 12 = 4) (by rw [(by rw [(by rw [eh40]; rfl : h40 39 14 = h24 39 14), (by rw [eh24]; rfl : h24 39 14 = h23 39 14), (by rw [eh23]; rfl : h23 39 14 = h13 39 14), (by rw [eh13]; rfl : h13 39 14 = 0)] : h40 39 14 = 0)]) (by split <;> omega) | exact go_d (p := hk 39 11) (by omega) i1 (by omega) (by omega) (by omega) j1 (by omega) j2 (by rw [(by rw [(by rw [eh40]; rfl : h40 39 10 = h24 39 10), (by rw [eh24]; rfl : h24 39 10 = h23 39 10), (by rw [eh23]; rfl : h23 39 10 = h13 39 10), (by rw [eh13]; rfl : h13 39 10 = h12 39 10), (by rw [eh12]; rfl : h12 39 10 = h11 39 10), (by rw [eh11]; rfl : h11 39 10 = v10)] : h40 39 10 = v10)]; omega) (by rw [(by rw [(by rw [eh40]; rfl : h40 39 11 = h24 39 11), (by rw [eh24]; rfl : h24 39 11 = h23 39 11), (by rw [eh23]; rfl : h23 39 11 = v22)] : h40 39 11 = v22)]) (by rw [(by rw [eh40]; rfl : h40 39 12 = 4)] : h40 39 12 = 4) (by rw [(by rw [(by rw [eh40]; rfl : h40 39 13 = h24 39 13), (by rw [eh24]; rfl : h24 39 13 = v15)] : h40 39 13 = v15)]) (by split <;> omega)⟩
                              · refine z_iconst (pc := 379) (v := 3) dX8_go_379 rfl ?_
                                refine z_goto (pc := 380) (tgt := 384) dX8_go_380 (by decide) ?_
                                refine z_putI (pc := 384) (pl := 39) (f := 12) (ci := 7) (C := RX8) (T := TX8) (N := 33) hu_X8 tyX8_ok nmX8 (by decide) rfl rfl (by decide) rfl (List.mem_cons_of_mem _ (iw27 _ (List.mem_of_getElem? (i := 2) rfl))) rfl rfl (ty := .int) (by decide +kernel) rfl rfl ⟨by decide, by decide⟩ dX8_go_384 (fun h41 eh41 => ?_)
                                have frh41 : Fr [39] hi h41 := (Fr.put frh24 eh41 (by decide))
                                have ff39h41 : FF 39 [10, 11, 12, 13, 14] hi h41 := FF.put ff39h24 eh41 (by decide)
                                refine z_vret (pc := 387) rfl dX8_go_387 ?_
                                exact hQ h41 ⟨frh41, ff39h41, by first | exact go_e (p := hk 39 11) (by omega) i1 (by omega) (by rw [(by rw [(by rw [eh41]; rfl : h41 39 10 = h24 39 10), (by rw [eh24]; rfl : h24 39 10 = h23 39 10), (by rw [eh23]; rfl : h23 39 10 = h13 39 10), (by rw [eh13]; rfl : h13 39 10 = h12 39 10), (by rw [eh12]; rfl : h12 39 10 = h11 39 10), (by rw [eh11]; rfl : h11 39 10 = v10)] : h41 39 10 = v10)]; omega) (by rw [(by rw [(by rw [eh41]; rfl : h41 39 11 = h24 39 11), (by rw [eh24]; rfl : h24 39 11 = h23 39 11), (by rw [eh23]; rfl : h23 39 11 = v22)] : h41 39 11 = v22)]) (by rw [(by rw [eh41]; rfl : h41 39 12 = 3)] : h41 39 12 = 3) (by omega) | exact go_s (p := hk 39 11) (by omega) i1 (by omega) (by omega) (by omega) (by omega) (by omega) (by rw [(by rw [(by rw [eh41]; rfl : h41 39 10 = h24 39 10), (by rw [eh24]; rfl : h24 39 10 = h23 39 10), (by rw [eh23]; rfl : h23 39 10 = h13 39 10), (by rw [eh13]; rfl : h13 39 10 = h12 39 10), (by rw [eh12]; rfl : h12 39 10 = h11 39 10), (by rw [eh11]; rfl : h11 39 10 = v10)] : h41 39 10 = v10)]; omega) (by rw [(by rw [eh41]; rfl : h41 39 11 = h24 39 11), (by rw [eh24]; rfl : h24 39 11 = h23 39 11), (by rw [eh23]; rfl : h23 39 11 = v22)] : h41 39 11 = v22) (by rw [(by rw [eh41]; rfl : h41 39 12 = 3)] : h41 39 12 = 3) (by rw [(by rw [eh41]; rfl : h41 39 13 = h24 39 13), (by rw [eh24]; rfl : h24 39 13 = v15)] : h41 39 13 = v15) (by omega) | exact go_w (p := hk 39 11) (by omega) i1 (by omega) (by omega) (by omega) j1 (by omega) j2 (by rw [(by rw [(by rw [eh41]; rfl : h41 39 10 = h24 39 10), (by rw [eh24]; rfl : h24 39 10 = h23 39 10), (by rw [eh23]; rfl : h23 39 10 = h13 39 10), (by rw [eh13]; rfl : h13 39 10 = h12 39 10), (by rw [eh12]; rfl : h12 39 10 = h11 39 10), (by rw [eh11]; rfl : h11 39 10 = v10)] : h41 39 10 = v10)]; omega) (by rw [(by rw [(by rw [eh41]; rfl : h41 39 11 = h24 39 11), (by rw [eh24]; rfl : h24 39 11 = h23 39 11), (by rw [eh23]; rfl : h23 39 11 = v22)] : h41 39 11 = v22)]) (by rw [(by rw [eh41]; rfl : h41 39 12 = 3)] : h41 39 12 = 3) (by rw [(by rw [(by rw [eh41]; rfl : h41 39 14 = h24 39 14), (by rw [eh24]; rfl : h24 39 14 = h23 39 14), (by rw [eh23]; rfl : h23 39 14 = h13 39 14), (by rw [eh13]; rfl : h13 39 14 = 0)] : h41 39 14 = 0)]) (by split <;> omega) | exact go_d (p := hk 39 11) (by omega) i1 (by omega) (by omega) (by omega) j1 (by omega) j2 (by rw [(by rw [(by rw [eh41]; rfl : h41 39 10 = h24 39 10), (by rw [eh24]; rfl : h24 39 10 = h23 39 10), (by rw [eh23]; rfl : h23 39 10 = h13 39 10), (by rw [eh13]; rfl : h13 39 10 = h12 39 10), (by rw [eh12]; rfl : h12 39 10 = h11 39 10), (by rw [eh11]; rfl : h11 39 10 = v10)] : h41 39 10 = v10)]; omega) (by rw [(by rw [(by rw [eh41]; rfl : h41 39 11 = h24 39 11), (by rw [eh24]; rfl : h24 39 11 = h23 39 11), (by rw [eh23]; rfl : h23 39 11 = v22)] : h41 39 11 = v22)]) (by rw [(by rw [eh41]; rfl : h41 39 12 = 3)] : h41 39 12 = 3) (by rw [(by rw [(by rw [eh41]; rfl : h41 39 13 = h24 39 13), (by rw [eh24]; rfl : h24 39 13 = v15)] : h41 39 13 = v15)]) (by split <;> omega)⟩
              · have J213 : ∀ (N : Nat) (hm : HI), (hk 39 11 ≤ hm 39 11 ∧ hm 39 11 ≤ hi 39 9) → (∀ q, hk 39 11 ≤ q → q < hm 39 11 → isDi (fM hi q.toNat)) → (hm 39 13 = wh (fM hi) (hk 39 11) (mn (hm 39 11 - hk 39 11) 3).toNat) → (hm 39 10 = hk 39 11) → (Fr [39] hi hm) → (FF 39 [10, 11, 12, 13, 14] hi hm) → ((hi 39 9 - hm 39 11).toNat) < N → Z kX8_go Q 213 [(1, AI v15), (0, AR 40)] [] hm := by
                  intro N
                  induction N with
                  | zero => intro hm _ _ _ _ _ _ _; exact absurd (by assumption) (Nat.not_lt_zero _)
                  | succ N ih213 =>
                    intro hm j0 j1 j2 j3 frlhm ffl39hm hm213
                    have bw := wh_b3 (by omega) j1 j2
                    refine z_aload_n (pc := 213) (x := 40) dX8_go_213 rfl 1 rfl ?_
                    refine z_aload_n (pc := 214) (x := 40) dX8_go_214 rfl 1 rfl ?_
                    refine z_getI (pc := 215) (pl := 39) (f := 11) (ci := 7) (C := RX8) (T := TX8) (N := 33) hu_X8 (by decide) rfl rfl (by decide) rfl (List.mem_cons_of_mem _ (iw27 _ (List.mem_of_getElem? (i := 10) rfl))) rfl (by decide) dX8_go_215 (fun v42 ev42 rv42 => ?_)
                    refine z_callV (pc := 218) (kc := kX8_byteAt) (n := 1) (pl := 39) (ci := 7) (C := RX8) (As := [AI v42]) (stk := []) ct_X8_byteAt (gdV rfl rfl (iw28 _ (List.mem_of_getElem? (i := 0) rfl)) (iw28 _ (List.mem_of_getElem? (i := 1) rfl)) (iw28 _ (List.mem_of_getElem? (i := 2) rfl)) (iw1 _ (List.mem_of_getElem? (i := 5) rfl)) (iw28 _ (List.mem_of_getElem? (i := 3) rfl))) rfl ⟨rfl, rfl⟩ (by decide +kernel) ⟨by decide, by decide⟩ (by decide) rfl rfl dX8_go_218 rfl rfl (Nat.le_of_ble_eq_true rfl) ?_
                    refine ⟨_, rfl, by (try rw [(frlhm 45 (by decide) : hm 45 = hi 45)]); (try rw [(ffl39hm 9 (by decide) : hm 39 9 = hi 39 9)]); omega, fun v43 ev43 => ?_⟩
                    try rw [(frlhm 45 (by decide) : hm 45 = hi 45)] at ev43
                    try rw [(ffl39hm 9 (by decide) : hm 39 9 = hi 39 9)] at ev43
                    replace ev43 : (v42 < hi 39 9 ∧ v43 = fM hi v42.toNat) ∨ (hi 39 9 ≤ v42 ∧ v43 = -1) := ev43
                    rw [ev42] at ev43
                    have bbv43 := fM_bd hi (hm 39 11).toNat
                    refine z_i2l (pc := 221) dX8_go_221 ⟨by omega, by omega⟩ ?_
                    refine z_ldc2 (pc := 222) (v := 48) (x := 48) (List.mem_cons_of_mem _ (iw27 _ (List.mem_of_getElem? (i := 22) rfl))) (by decide +kernel) dX8_go_222 ?_
                    refine z_ldc2 (pc := 225) (v := 57) (x := 57) (List.mem_cons_of_mem _ (iw27 _ (List.mem_of_getElem? (i := 23) rfl))) (by decide +kernel) dX8_go_225 ?_
                    refine z_callS (pc := 228) (kc := kX8_within) (n := 3) (As := [AL v43, AL 48, AL 57]) (stk := []) ct_X8_within (gdS rfl rfl (iw9 _ (List.mem_of_getElem? (i := 9) rfl)) (iw9 _ (List.mem_of_getElem? (i := 10) rfl)) (iw1 _ (List.mem_of_getElem? (i := 5) rfl)) (iw9 _ (List.mem_of_getElem? (i := 11) rfl))) rfl ⟨rfl, rfl⟩ (by decide +kernel) ⟨by decide, by decide⟩ dX8_go_228 rfl rfl (Nat.le_of_ble_eq_true rfl) ?_
                    refine ⟨_, _, _, rfl, ⟨⟨by omega, by omega⟩, ⟨by decide, by decide⟩, ⟨by decide, by decide⟩⟩, fun v44 ev44 => ?_⟩
                    refine z_if_eq (pc := 231) (tgt := 290) dX8_go_231 (by decide) ⟨by omega, by omega⟩ (fun c45 => ?_) (fun c45 => ?_)
                    · refine z_aload_n (pc := 290) (x := 40) dX8_go_290 rfl 1 rfl ?_
                      refine z_aload_n (pc := 291) (x := 40) dX8_go_291 rfl 1 rfl ?_
                      refine z_getI (pc := 292) (pl := 39) (f := 11) (ci := 7) (C := RX8) (T := TX8) (N := 33) hu_X8 (by decide) rfl rfl (by decide) rfl (List.mem_cons_of_mem _ (iw27 _ (List.mem_of_getElem? (i := 10) rfl))) rfl (by decide) dX8_go_292 (fun v46 ev46 rv46 => ?_)
                      refine z_aload_n (pc := 295) (x := 40) dX8_go_295 rfl 1 rfl ?_
                      refine z_getI (pc := 296) (pl := 39) (f := 10) (ci := 7) (C := RX8) (T := TX8) (N := 33) hu_X8 (by decide) rfl rfl (by decide) rfl (List.mem_cons_of_mem _ (iw27 _ (List.mem_of_getElem? (i := 15) rfl))) rfl (by decide) dX8_go_296 (fun v47 ev47 rv47 => ?_)
                      refine z_isub (pc := 299) dX8_go_299 (fun v48 ev48 => ?_)
                      refine z_iconst (pc := 300) (v := 3) dX8_go_300 rfl ?_
                      refine z_icmp_le (pc := 301) (tgt := 308) dX8_go_301 (by decide) ⟨by omega, by omega⟩ ⟨by decide, by decide⟩ (fun c49 => ?_) (fun c49 => ?_)
                      · refine z_iconst (pc := 308) (v := 2) dX8_go_308 rfl ?_
                        refine z_putI (pc := 309) (pl := 39) (f := 12) (ci := 7) (C := RX8) (T := TX8) (N := 33) hu_X8 tyX8_ok nmX8 (by decide) rfl rfl (by decide) rfl (List.mem_cons_of_mem _ (iw27 _ (List.mem_of_getElem? (i := 2) rfl))) rfl rfl (ty := .int) (by decide +kernel) rfl rfl ⟨by decide, by decide⟩ dX8_go_309 (fun h50 eh50 => ?_)
                        have frh50 : Fr [39] hi h50 := (Fr.put frlhm eh50 (by decide))
                        have ff39h50 : FF 39 [10, 11, 12, 13, 14] hi h50 := FF.put ffl39hm eh50 (by decide)
                        refine z_goto (pc := 312) (tgt := 387) dX8_go_312 (by decide) ?_
                        refine z_vret (pc := 387) rfl dX8_go_387 ?_
                        exact hQ h50 ⟨frh50, ff39h50, by first | exact go_e (p := hk 39 11) (by omega) i1 (by omega) (by rw [(by rw [(by rw [eh50]; rfl : h50 39 10 = hm 39 10)] : h50 39 10 = hm 39 10)]; omega) (by rw [(by rw [(by rw [eh50]; rfl : h50 39 11 = hm 39 11)] : h50 39 11 = hm 39 11)]) (by rw [(by rw [eh50]; rfl : h50 39 12 = 2)] : h50 39 12 = 2) (by omega) | exact go_s (p := hk 39 11) (by omega) i1 (by omega) (by omega) (by omega) (by omega) (by omega) (by rw [(by rw [(by rw [eh50]; rfl : h50 39 10 = hm 39 10)] : h50 39 10 = hm 39 10)]; omega) (by rw [(by rw [eh50]; rfl : h50 39 11 = hm 39 11)] : h50 39 11 = hm 39 11) (by rw [(by rw [eh50]; rfl : h50 39 12 = 2)] : h50 39 12 = 2) (by rw [(by rw [eh50]; rfl : h50 39 13 = hm 39 13)] : h50 39 13 = hm 39 13) (by omega) | exact go_w (p := hk 39 11) (by omega) i1 (by omega) (by omega) (by omega) j1 (by omega) j2 (by rw [(by rw [(by rw [eh50]; rfl : h50 39 10 = hm 39 10)] : h50 39 10 = hm 39 10)]; omega) (by rw [(by rw [(by rw [eh50]; rfl : h50 39 11 = hm 39 11)] : h50 39 11 = hm 39 11)]) (by rw [(by rw [eh50]; rfl : h50 39 12 = 2)] : h50 39 12 = 2) (by rw [(by rw [(by rw [eh50]; rfl : h50 39 14 = hm 39 14)] : h50 39 14 = hm 39 14)]) (by split <;> omega) | exact go_d (p := hk 39 11) (by omega) i1 (by omega) (by omega) (by omega) j1 (by omega) j2 (by rw [(by rw [(by rw [eh50]; rfl : h50 39 10 = hm 39 10)] : h50 39 10 = hm 39 10)]; omega) (by rw [(by rw [(by rw [eh50]; rfl : h50 39 11 = hm 39 11)] : h50 39 11 = hm 39 11)]) (by rw [(by rw [eh50]; rfl : h50 39 12 = 2)] : h50 39 12 = 2) (by rw [(by rw [(by rw [eh50]; rfl : h50 39 13 = hm 39 13)] : h50 39 13 = hm 39 13)]) (by split <;> omega)⟩
                      · refine z_iconst (pc := 304) (v := 4) dX8_go_304 rfl ?_
                        refine z_goto (pc := 305) (tgt := 309) dX8_go_305 (by decide) ?_
                        refine z_putI (pc := 309) (pl := 39) (f := 12) (ci := 7) (C := RX8) (T := TX8) (N := 33) hu_X8 tyX8_ok nmX8 (by decide) rfl rfl (by decide) rfl (List.mem_cons_of_mem _ (iw27 _ (List.mem_of_getElem? (i := 2) rfl))) rfl rfl (ty := .int) (by decide +kernel) rfl rfl ⟨by decide, by decide⟩ dX8_go_309 (fun h51 eh51 => ?_)
                        have frh51 : Fr [39] hi h51 := (Fr.put frlhm eh51 (by decide))
                        have ff39h51 : FF 39 [10, 11, 12, 13, 14] hi h51 := FF.put ffl39hm eh51 (by decide)
                        refine z_goto (pc := 312) (tgt := 387) dX8_go_312 (by decide) ?_
                        refine z_vret (pc := 387) rfl dX8_go_387 ?_
                        exact hQ h51 ⟨frh51, ff39h51, by first | exact go_e (p := hk 39 11) (by omega) i1 (by omega) (by rw [(by rw [(by rw [eh51]; rfl : h51 39 10 = hm 39 10)] : h51 39 10 = hm 39 10)]; omega) (by rw [(by rw [(by rw [eh51]; rfl : h51 39 11 = hm 39 11)] : h51 39 11 = hm 39 11)]) (by rw [(by rw [eh51]; rfl : h51 39 12 = 4)] : h51 39 12 = 4) (by omega) | exact go_s (p := hk 39 11) (by omega) i1 (by omega) (by omega) (by omega) (by omega) (by omega) (by rw [(by rw [(by rw [eh51]; rfl : h51 39 10 = hm 39 10)] : h51 39 10 = hm 39 10)]; omega) (by rw [(by rw [eh51]; rfl : h51 39 11 = hm 39 11)] : h51 39 11 = hm 39 11) (by rw [(by rw [eh51]; rfl : h51 39 12 = 4)] : h51 39 12 = 4) (by rw [(by rw [eh51]; rfl : h51 39 13 = hm 39 13)] : h51 39 13 = hm 39 13) (by omega) | exact go_w (p := hk 39 11) (by omega) i1 (by omega) (by omega) (by omega) j1 (by omega) j2 (by rw [(by rw [(by rw [eh51]; rfl : h51 39 10 = hm 39 10)] : h51 39 10 = hm 39 10)]; omega) (by rw [(by rw [(by rw [eh51]; rfl : h51 39 11 = hm 39 11)] : h51 39 11 = hm 39 11)]) (by rw [(by rw [eh51]; rfl : h51 39 12 = 4)] : h51 39 12 = 4) (by rw [(by rw [(by rw [eh51]; rfl : h51 39 14 = hm 39 14)] : h51 39 14 = hm 39 14)]) (by split <;> omega) | exact go_d (p := hk 39 11) (by omega) i1 (by omega) (by omega) (by omega) j1 (by omega) j2 (by rw [(by rw [(by rw [eh51]; rfl : h51 39 10 = hm 39 10)] : h51 39 10 = hm 39 10)]; omega) (by rw [(by rw [(by rw [eh51]; rfl : h51 39 11 = hm 39 11)] : h51 39 11 = hm 39 11)]) (by rw [(by rw [eh51]; rfl : h51 39 12 = 4)] : h51 39 12 = 4) (by rw [(by rw [(by rw [eh51]; rfl : h51 39 13 = hm 39 13)] : h51 39 13 = hm 39 13)]) (by split <;> omega)⟩
                    · refine z_aload_n (pc := 234) (x := 40) dX8_go_234 rfl 1 rfl ?_
                      refine z_aload_n (pc := 235) (x := 40) dX8_go_235 rfl 1 rfl ?_
                      refine z_getI (pc := 236) (pl := 39) (f := 11) (ci := 7) (C := RX8) (T := TX8) (N := 33) hu_X8 (by decide) rfl rfl (by decide) rfl (List.mem_cons_of_mem _ (iw27 _ (List.mem_of_getElem? (i := 10) rfl))) rfl (by decide) dX8_go_236 (fun v52 ev52 rv52 => ?_)
                      refine z_aload_n (pc := 239) (x := 40) dX8_go_239 rfl 1 rfl ?_
                      refine z_getI (pc := 240) (pl := 39) (f := 10) (ci := 7) (C := RX8) (T := TX8) (N := 33) hu_X8 (by decide) rfl rfl (by decide) rfl (List.mem_cons_of_mem _ (iw27 _ (List.mem_of_getElem? (i := 15) rfl))) rfl (by decide) dX8_go_240 (fun v53 ev53 rv53 => ?_)
                      refine z_isub (pc := 243) dX8_go_243 (fun v54 ev54 => ?_)
                      refine z_iconst (pc := 244) (v := 3) dX8_go_244 rfl ?_
                      refine z_icmp_ge (pc := 245) (tgt := 270) dX8_go_245 (by decide) ⟨by omega, by omega⟩ ⟨by decide, by decide⟩ (fun c55 => ?_) (fun c55 => ?_)
                      · refine z_aload_n (pc := 270) (x := 40) dX8_go_270 rfl 1 rfl ?_
                        refine z_getI (pc := 271) (pl := 39) (f := 13) (ci := 7) (C := RX8) (T := TX8) (N := 33) hu_X8 (by decide) rfl rfl (by decide) rfl (List.mem_cons_of_mem _ (iw27 _ (List.mem_of_getElem? (i := 16) rfl))) rfl (by decide) dX8_go_271 (fun v56 ev56 rv56 => ?_)
                        refine z_putI (pc := 274) (pl := 39) (f := 13) (ci := 7) (C := RX8) (T := TX8) (N := 33) hu_X8 tyX8_ok nmX8 (by decide) rfl rfl (by decide) rfl (List.mem_cons_of_mem _ (iw27 _ (List.mem_of_getElem? (i := 16) rfl))) rfl rfl (ty := .int) (by decide +kernel) rfl rfl ⟨by omega, by omega⟩ dX8_go_274 (fun h57 eh57 => ?_)
                        have frh57 : Fr [39] hi h57 := (Fr.put frlhm eh57 (by decide))
                        have ff39h57 : FF 39 [10, 11, 12, 13, 14] hi h57 := FF.put ffl39hm eh57 (by decide)
                        refine z_aload_n (pc := 277) (x := 40) dX8_go_277 rfl 1 rfl ?_
                        refine z_dup (pc := 278) dX8_go_278 rfl ?_
                        refine z_getI (pc := 279) (pl := 39) (f := 11) (ci := 7) (C := RX8) (T := TX8) (N := 33) hu_X8 (by decide) rfl rfl (by decide) rfl (List.mem_cons_of_mem _ (iw27 _ (List.mem_of_getElem? (i := 10) rfl))) rfl (by decide) dX8_go_279 (fun v58 ev58 rv58 => ?_)
                        rw [(by rw [eh57]; rfl : h57 39 11 = hm 39 11)] at ev58
                        refine z_iconst (pc := 282) (v := 1) dX8_go_282 rfl ?_
                        refine z_iadd (pc := 283) dX8_go_283 (fun v59 ev59 => ?_)
                        refine z_putI (pc := 284) (pl := 39) (f := 11) (ci := 7) (C := RX8) (T := TX8) (N := 33) hu_X8 tyX8_ok nmX8 (by decide) rfl rfl (by decide) rfl (List.mem_cons_of_mem _ (iw27 _ (List.mem_of_getElem? (i := 10) rfl))) rfl rfl (ty := .int) (by decide +kernel) rfl rfl ⟨by omega, by omega⟩ dX8_go_284 (fun h60 eh60 => ?_)
                        have frh60 : Fr [39] hi h60 := (Fr.put frh57 eh60 (by decide))
                        have ff39h60 : FF 39 [10, 11, 12, 13, 14] hi h60 := FF.put ff39h57 eh60 (by decide)
                        refine z_goto (pc := 287) (tgt := 213) dX8_go_287 (by decide) ?_
                        exact ih213 h60 (by rw [(by rw [(by rw [eh60]; rfl : h60 39 11 = v59)] : h60 39 11 = v59)]; omega) (di_step j1 (by rw [(by rw [(by rw [eh60]; rfl : h60 39 11 = v59)] : h60 39 11 = v59)]; omega) (by omega)) (by rw [(by rw [(by rw [eh60]; rfl : h60 39 13 = h57 39 13), (by rw [eh57]; rfl : h57 39 13 = v56)] : h60 39 13 = v56), (by rw [(by rw [eh60]; rfl : h60 39 11 = v59)] : h60 39 11 = v59)]; first | exact whm_step (by omega) (by omega) (by omega) j2 (by omega) | exact whm_stay (by omega) (by omega) j2 (by omega)) (by rw [(by rw [(by rw [eh60]; rfl : h60 39 10 = h57 39 10), (by rw [eh57]; rfl : h57 39 10 = hm 39 10)] : h60 39 10 = hm 39 10)]; exact j3) (frh60) (ff39h60) (by rw [(by rw [(by rw [eh60]; rfl : h60 39 11 = v59)] : h60 39 11 = v59)]; omega)
                      · refine z_bipush (pc := 248) (v := 10) dX8_go_248 (by decide +kernel) ?_
                        refine z_aload_n (pc := 250) (x := 40) dX8_go_250 rfl 1 rfl ?_
                        refine z_getI (pc := 251) (pl := 39) (f := 13) (ci := 7) (C := RX8) (T := TX8) (N := 33) hu_X8 (by decide) rfl rfl (by decide) rfl (List.mem_cons_of_mem _ (iw27 _ (List.mem_of_getElem? (i := 16) rfl))) rfl (by decide) dX8_go_251 (fun v61 ev61 rv61 => ?_)
                        refine z_imul (pc := 254) dX8_go_254 (fun v62 ev62 => ?_)
                        refine z_aload_n (pc := 255) (x := 40) dX8_go_255 rfl 1 rfl ?_
                        refine z_aload_n (pc := 256) (x := 40) dX8_go_256 rfl 1 rfl ?_
                        refine z_getI (pc := 257) (pl := 39) (f := 11) (ci := 7) (C := RX8) (T := TX8) (N := 33) hu_X8 (by decide) rfl rfl (by decide) rfl (List.mem_cons_of_mem _ (iw27 _ (List.mem_of_getElem? (i := 10) rfl))) rfl (by decide) dX8_go_257 (fun v63 ev63 rv63 => ?_)
                        refine z_callV (pc := 260) (kc := kX8_byteAt) (n := 1) (pl := 39) (ci := 7) (C := RX8) (As := [AI v63]) (stk := [AI v62, AR 40]) ct_X8_byteAt (gdV rfl rfl (iw28 _ (List.mem_of_getElem? (i := 0) rfl)) (iw28 _ (List.mem_of_getElem? (i := 1) rfl)) (iw28 _ (List.mem_of_getElem? (i := 2) rfl)) (iw1 _ (List.mem_of_getElem? (i := 5) rfl)) (iw28 _ (List.mem_of_getElem? (i := 3) rfl))) rfl ⟨rfl, rfl⟩ (by decide +kernel) ⟨by decide, by decide⟩ (by decide) rfl rfl dX8_go_260 rfl rfl (Nat.le_of_ble_eq_true rfl) ?_
                        refine ⟨_, rfl, by (try rw [(frlhm 45 (by decide) : hm 45 = hi 45)]); (try rw [(ffl39hm 9 (by decide) : hm 39 9 = hi 39 9)]); omega, fun v64 ev64 => ?_⟩
                        try rw [(frlhm 45 (by decide) : hm 45 = hi 45)] at ev64
                        try rw [(ffl39hm 9 (by decide) : hm 39 9 = hi 39 9)] at ev64
                        replace ev64 : (v63 < hi 39 9 ∧ v64 = fM hi v63.toNat) ∨ (hi 39 9 ≤ v63 ∧ v64 = -1) := ev64
                        rw [ev63] at ev64
                        have bbv64 := fM_bd hi (hm 39 11).toNat
                        refine z_iadd (pc := 263) dX8_go_263 (fun v65 ev65 => ?_)
                        refine z_bipush (pc := 264) (v := 48) dX8_go_264 (by decide +kernel) ?_
                        refine z_isub (pc := 266) dX8_go_266 (fun v66 ev66 => ?_)
                        refine z_goto (pc := 267) (tgt := 274) dX8_go_267 (by decide) ?_
                        refine z_putI (pc := 274) (pl := 39) (f := 13) (ci := 7) (C := RX8) (T := TX8) (N := 33) hu_X8 tyX8_ok nmX8 (by decide) rfl rfl (by decide) rfl (List.mem_cons_of_mem _ (iw27 _ (List.mem_of_getElem? (i := 16) rfl))) rfl rfl (ty := .int) (by decide +kernel) rfl rfl ⟨by omega, by omega⟩ dX8_go_274 (fun h67 eh67 => ?_)
                        have frh67 : Fr [39] hi h67 := (Fr.put frlhm eh67 (by decide))
                        have ff39h67 : FF 39 [10, 11, 12, 13, 14] hi h67 := FF.put ffl39hm eh67 (by decide)
                        refine z_aload_n (pc := 277) (x := 40) dX8_go_277 rfl 1 rfl ?_
                        refine z_dup (pc := 278) dX8_go_278 rfl ?_
                        refine z_getI (pc := 279) (pl := 39) (f := 11) (ci := 7) (C := RX8) (T := TX8) (N := 33) hu_X8 (by decide) rfl rfl (by decide) rfl (List.mem_cons_of_mem _ (iw27 _ (List.mem_of_getElem? (i := 10) rfl))) rfl (by decide) dX8_go_279 (fun v68 ev68 rv68 => ?_)
                        rw [(by rw [eh67]; rfl : h67 39 11 = hm 39 11)] at ev68
                        refine z_iconst (pc := 282) (v := 1) dX8_go_282 rfl ?_
                        refine z_iadd (pc := 283) dX8_go_283 (fun v69 ev69 => ?_)
                        refine z_putI (pc := 284) (pl := 39) (f := 11) (ci := 7) (C := RX8) (T := TX8) (N := 33) hu_X8 tyX8_ok nmX8 (by decide) rfl rfl (by decide) rfl (List.mem_cons_of_mem _ (iw27 _ (List.mem_of_getElem? (i := 10) rfl))) rfl rfl (ty := .int) (by decide +kernel) rfl rfl ⟨by omega, by omega⟩ dX8_go_284 (fun h70 eh70 => ?_)
                        have frh70 : Fr [39] hi h70 := (Fr.put frh67 eh70 (by decide))
                        have ff39h70 : FF 39 [10, 11, 12, 13, 14] hi h70 := FF.put ff39h67 eh70 (by decide)
                        refine z_goto (pc := 287) (tgt := 213) dX8_go_287 (by decide) ?_
                        exact ih213 h70 (by rw [(by rw [(by rw [eh70]; rfl : h70 39 11 = v69)] : h70 39 11 = v69)]; omega) (di_step j1 (by rw [(by rw [(by rw [eh70]; rfl : h70 39 11 = v69)] : h70 39 11 = v69)]; omega) (by omega)) (by rw [(by rw [(by rw [eh70]; rfl : h70 39 13 = h67 39 13), (by rw [eh67]; rfl : h67 39 13 = v66)] : h70 39 13 = v66), (by rw [(by rw [eh70]; rfl : h70 39 11 = v69)] : h70 39 11 = v69)]; first | exact whm_step (by omega) (by omega) (by omega) j2 (by omega) | exact whm_stay (by omega) (by omega) j2 (by omega)) (by rw [(by rw [(by rw [eh70]; rfl : h70 39 10 = h67 39 10), (by rw [eh67]; rfl : h67 39 10 = hm 39 10)] : h70 39 10 = hm 39 10)]; exact j3) (frh70) (ff39h70) (by rw [(by rw [(by rw [eh70]; rfl : h70 39 11 = v69)] : h70 39 11 = v69)]; omega)
                exact J213 _ h13 (by rw [(by rw [(by rw [eh13]; rfl : h13 39 11 = h12 39 11), (by rw [eh12]; rfl : h12 39 11 = h11 39 11), (by rw [eh11]; rfl : h11 39 11 = hk 39 11)] : h13 39 11 = hk 39 11)]; omega) (fun q q0 q1 => by rw [(by rw [(by rw [eh13]; rfl : h13 39 11 = h12 39 11), (by rw [eh12]; rfl : h12 39 11 = h11 39 11), (by rw [eh11]; rfl : h11 39 11 = hk 39 11)] : h13 39 11 = hk 39 11)] at q1; omega) (whm_0 (by rw [(by rw [eh13]; rfl : h13 39 11 = h12 39 11), (by rw [eh12]; rfl : h12 39 11 = h11 39 11), (by rw [eh11]; rfl : h11 39 11 = hk 39 11)] : h13 39 11 = hk 39 11) (by rw [(by rw [eh13]; rfl : h13 39 13 = h12 39 13), (by rw [eh12]; rfl : h12 39 13 = 0)] : h13 39 13 = 0)) (by rw [(by rw [(by rw [eh13]; rfl : h13 39 10 = h12 39 10), (by rw [eh12]; rfl : h12 39 10 = h11 39 10), (by rw [eh11]; rfl : h11 39 10 = v10)] : h13 39 10 = v10)]; omega) (frh13) (ff39h13) (Nat.lt_succ_self _)
            · have J92 : ∀ (N : Nat) (hm : HI), (hk 39 11 ≤ hm 39 11 ∧ hm 39 11 ≤ hi 39 9) → (∀ q, hk 39 11 ≤ q → q < hm 39 11 → isLe (fM hi q.toNat)) → (hm 39 14 = pk (fM hi) (hk 39 11) (mn (hm 39 11 - hk 39 11) 7).toNat) → (hm 39 10 = hk 39 11) → (Fr [39] hi hm) → (FF 39 [10, 11, 12, 13, 14] hi hm) → ((hi 39 9 - hm 39 11).toNat) < N → Z kX8_go Q 92 [(1, AI v15), (0, AR 40)] [] hm := by
                intro N
                induction N with
                | zero => intro hm _ _ _ _ _ _ _; exact absurd (by assumption) (Nat.not_lt_zero _)
                | succ N ih92 =>
                  intro hm j0 j1 j2 j3 frlhm ffl39hm hm92
                  have bw := pk_b6 (by omega) j1 j2
                  refine z_aload_n (pc := 92) (x := 40) dX8_go_92 rfl 1 rfl ?_
                  refine z_aload_n (pc := 93) (x := 40) dX8_go_93 rfl 1 rfl ?_
                  refine z_getI (pc := 94) (pl := 39) (f := 11) (ci := 7) (C := RX8) (T := TX8) (N := 33) hu_X8 (by decide) rfl rfl (by decide) rfl (List.mem_cons_of_mem _ (iw27 _ (List.mem_of_getElem? (i := 10) rfl))) rfl (by decide) dX8_go_94 (fun v71 ev71 rv71 => ?_)
                  refine z_callV (pc := 97) (kc := kX8_byteAt) (n := 1) (pl := 39) (ci := 7) (C := RX8) (As := [AI v71]) (stk := []) ct_X8_byteAt (gdV rfl rfl (iw28 _ (List.mem_of_getElem? (i := 0) rfl)) (iw28 _ (List.mem_of_getElem? (i := 1) rfl)) (iw28 _ (List.mem_of_getElem? (i := 2) rfl)) (iw1 _ (List.mem_of_getElem? (i := 5) rfl)) (iw28 _ (List.mem_of_getElem? (i := 3) rfl))) rfl ⟨rfl, rfl⟩ (by decide +kernel) ⟨by decide, by decide⟩ (by decide) rfl rfl dX8_go_97 rfl rfl (Nat.le_of_ble_eq_true rfl) ?_
                  refine ⟨_, rfl, by (try rw [(frlhm 45 (by decide) : hm 45 = hi 45)]); (try rw [(ffl39hm 9 (by decide) : hm 39 9 = hi 39 9)]); omega, fun v72 ev72 => ?_⟩
                  try rw [(frlhm 45 (by decide) : hm 45 = hi 45)] at ev72
                  try rw [(ffl39hm 9 (by decide) : hm 39 9 = hi 39 9)] at ev72
                  replace ev72 : (v71 < hi 39 9 ∧ v72 = fM hi v71.toNat) ∨ (hi 39 9 ≤ v71 ∧ v72 = -1) := ev72
                  rw [ev71] at ev72
                  have bbv72 := fM_bd hi (hm 39 11).toNat
                  refine z_i2l (pc := 100) dX8_go_100 ⟨by omega, by omega⟩ ?_
                  refine z_ldc2 (pc := 101) (v := 97) (x := 97) (List.mem_cons_of_mem _ (iw27 _ (List.mem_of_getElem? (i := 18) rfl))) (by decide +kernel) dX8_go_101 ?_
                  refine z_ldc2 (pc := 104) (v := 122) (x := 122) (List.mem_cons_of_mem _ (iw27 _ (List.mem_of_getElem? (i := 19) rfl))) (by decide +kernel) dX8_go_104 ?_
                  refine z_callS (pc := 107) (kc := kX8_within) (n := 3) (As := [AL v72, AL 97, AL 122]) (stk := []) ct_X8_within (gdS rfl rfl (iw9 _ (List.mem_of_getElem? (i := 9) rfl)) (iw9 _ (List.mem_of_getElem? (i := 10) rfl)) (iw1 _ (List.mem_of_getElem? (i := 5) rfl)) (iw9 _ (List.mem_of_getElem? (i := 11) rfl))) rfl ⟨rfl, rfl⟩ (by decide +kernel) ⟨by decide, by decide⟩ dX8_go_107 rfl rfl (Nat.le_of_ble_eq_true rfl) ?_
                  refine ⟨_, _, _, rfl, ⟨⟨by omega, by omega⟩, ⟨by decide, by decide⟩, ⟨by decide, by decide⟩⟩, fun v73 ev73 => ?_⟩
                  refine z_if_eq (pc := 110) (tgt := 173) dX8_go_110 (by decide) ⟨by omega, by omega⟩ (fun c74 => ?_) (fun c74 => ?_)
                  · refine z_aload_n (pc := 173) (x := 40) dX8_go_173 rfl 1 rfl ?_
                    refine z_aload_n (pc := 174) (x := 40) dX8_go_174 rfl 1 rfl ?_
                    refine z_getI (pc := 175) (pl := 39) (f := 11) (ci := 7) (C := RX8) (T := TX8) (N := 33) hu_X8 (by decide) rfl rfl (by decide) rfl (List.mem_cons_of_mem _ (iw27 _ (List.mem_of_getElem? (i := 10) rfl))) rfl (by decide) dX8_go_175 (fun v75 ev75 rv75 => ?_)
                    refine z_aload_n (pc := 178) (x := 40) dX8_go_178 rfl 1 rfl ?_
                    refine z_getI (pc := 179) (pl := 39) (f := 10) (ci := 7) (C := RX8) (T := TX8) (N := 33) hu_X8 (by decide) rfl rfl (by decide) rfl (List.mem_cons_of_mem _ (iw27 _ (List.mem_of_getElem? (i := 15) rfl))) rfl (by decide) dX8_go_179 (fun v76 ev76 rv76 => ?_)
                    refine z_isub (pc := 182) dX8_go_182 (fun v77 ev77 => ?_)
                    refine z_bipush (pc := 183) (v := 7) dX8_go_183 (by decide +kernel) ?_
                    refine z_icmp_le (pc := 185) (tgt := 192) dX8_go_185 (by decide) ⟨by omega, by omega⟩ ⟨by decide, by decide⟩ (fun c78 => ?_) (fun c78 => ?_)
                    · refine z_iconst (pc := 192) (v := 1) dX8_go_192 rfl ?_
                      refine z_putI (pc := 193) (pl := 39) (f := 12) (ci := 7) (C := RX8) (T := TX8) (N := 33) hu_X8 tyX8_ok nmX8 (by decide) rfl rfl (by decide) rfl (List.mem_cons_of_mem _ (iw27 _ (List.mem_of_getElem? (i := 2) rfl))) rfl rfl (ty := .int) (by decide +kernel) rfl rfl ⟨by decide, by decide⟩ dX8_go_193 (fun h79 eh79 => ?_)
                      have frh79 : Fr [39] hi h79 := (Fr.put frlhm eh79 (by decide))
                      have ff39h79 : FF 39 [10, 11, 12, 13, 14] hi h79 := FF.put ffl39hm eh79 (by decide)
                      refine z_goto (pc := 196) (tgt := 387) dX8_go_196 (by decide) ?_
                      refine z_vret (pc := 387) rfl dX8_go_387 ?_
                      exact hQ h79 ⟨frh79, ff39h79, by first | exact go_e (p := hk 39 11) (by omega) i1 (by omega) (by rw [(by rw [(by rw [eh79]; rfl : h79 39 10 = hm 39 10)] : h79 39 10 = hm 39 10)]; omega) (by rw [(by rw [(by rw [eh79]; rfl : h79 39 11 = hm 39 11)] : h79 39 11 = hm 39 11)]) (by rw [(by rw [eh79]; rfl : h79 39 12 = 1)] : h79 39 12 = 1) (by omega) | exact go_s (p := hk 39 11) (by omega) i1 (by omega) (by omega) (by omega) (by omega) (by omega) (by rw [(by rw [(by rw [eh79]; rfl : h79 39 10 = hm 39 10)] : h79 39 10 = hm 39 10)]; omega) (by rw [(by rw [eh79]; rfl : h79 39 11 = hm 39 11)] : h79 39 11 = hm 39 11) (by rw [(by rw [eh79]; rfl : h79 39 12 = 1)] : h79 39 12 = 1) (by rw [(by rw [eh79]; rfl : h79 39 13 = hm 39 13)] : h79 39 13 = hm 39 13) (by omega) | exact go_w (p := hk 39 11) (by omega) i1 (by omega) (by omega) (by omega) j1 (by omega) j2 (by rw [(by rw [(by rw [eh79]; rfl : h79 39 10 = hm 39 10)] : h79 39 10 = hm 39 10)]; omega) (by rw [(by rw [(by rw [eh79]; rfl : h79 39 11 = hm 39 11)] : h79 39 11 = hm 39 11)]) (by rw [(by rw [eh79]; rfl : h79 39 12 = 1)] : h79 39 12 = 1) (by rw [(by rw [(by rw [eh79]; rfl : h79 39 14 = hm 39 14)] : h79 39 14 = hm 39 14)]) (by split <;> omega) | exact go_d (p := hk 39 11) (by omega) i1 (by omega) (by omega) (by omega) j1 (by omega) j2 (by rw [(by rw [(by rw [eh79]; rfl : h79 39 10 = hm 39 10)] : h79 39 10 = hm 39 10)]; omega) (by rw [(by rw [(by rw [eh79]; rfl : h79 39 11 = hm 39 11)] : h79 39 11 = hm 39 11)]) (by rw [(by rw [eh79]; rfl : h79 39 12 = 1)] : h79 39 12 = 1) (by rw [(by rw [(by rw [eh79]; rfl : h79 39 13 = hm 39 13)] : h79 39 13 = hm 39 13)]) (by split <;> omega)⟩
                    · refine z_iconst (pc := 188) (v := 4) dX8_go_188 rfl ?_
                      refine z_goto (pc := 189) (tgt := 193) dX8_go_189 (by decide) ?_
                      refine z_putI (pc := 193) (pl := 39) (f := 12) (ci := 7) (C := RX8) (T := TX8) (N := 33) hu_X8 tyX8_ok nmX8 (by decide) rfl rfl (by decide) rfl (List.mem_cons_of_mem _ (iw27 _ (List.mem_of_getElem? (i := 2) rfl))) rfl rfl (ty := .int) (by decide +kernel) rfl rfl ⟨by decide, by decide⟩ dX8_go_193 (fun h80 eh80 => ?_)
                      have frh80 : Fr [39] hi h80 := (Fr.put frlhm eh80 (by decide))
                      have ff39h80 : FF 39 [10, 11, 12, 13, 14] hi h80 := FF.put ffl39hm eh80 (by decide)
                      refine z_goto (pc := 196) (tgt := 387) dX8_go_196 (by decide) ?_
                      refine z_vret (pc := 387) rfl dX8_go_387 ?_
                      exact hQ h80 ⟨frh80, ff39h80, by first | exact go_e (p := hk 39 11) (by omega) i1 (by omega) (by rw [(by rw [(by rw [eh80]; rfl : h80 39 10 = hm 39 10)] : h80 39 10 = hm 39 10)]; omega) (by rw [(by rw [(by rw [eh80]; rfl : h80 39 11 = hm 39 11)] : h80 39 11 = hm 39 11)]) (by rw [(by rw [eh80]; rfl : h80 39 12 = 4)] : h80 39 12 = 4) (by omega) | exact go_s (p := hk 39 11) (by omega) i1 (by omega) (by omega) (by omega) (by omega) (by omega) (by rw [(by rw [(by rw [eh80]; rfl : h80 39 10 = hm 39 10)] : h80 39 10 = hm 39 10)]; omega) (by rw [(by rw [eh80]; rfl : h80 39 11 = hm 39 11)] : h80 39 11 = hm 39 11) (by rw [(by rw [eh80]; rfl : h80 39 12 = 4)] : h80 39 12 = 4) (by rw [(by rw [eh80]; rfl : h80 39 13 = hm 39 13)] : h80 39 13 = hm 39 13) (by omega) | exact go_w (p := hk 39 11) (by omega) i1 (by omega) (by omega) (by omega) j1 (by omega) j2 (by rw [(by rw [(by rw [eh80]; rfl : h80 39 10 = hm 39 10)] : h80 39 10 = hm 39 10)]; omega) (by rw [(by rw [(by rw [eh80]; rfl : h80 39 11 = hm 39 11)] : h80 39 11 = hm 39 11)]) (by rw [(by rw [eh80]; rfl : h80 39 12 = 4)] : h80 39 12 = 4) (by rw [(by rw [(by rw [eh80]; rfl : h80 39 14 = hm 39 14)] : h80 39 14 = hm 39 14)]) (by split <;> omega) | exact go_d (p := hk 39 11) (by omega) i1 (by omega) (by omega) (by omega) j1 (by omega) j2 (by rw [(by rw [(by rw [eh80]; rfl : h80 39 10 = hm 39 10)] : h80 39 10 = hm 39 10)]; omega) (by rw [(by rw [(by rw [eh80]; rfl : h80 39 11 = hm 39 11)] : h80 39 11 = hm 39 11)]) (by rw [(by rw [eh80]; rfl : h80 39 12 = 4)] : h80 39 12 = 4) (by rw [(by rw [(by rw [eh80]; rfl : h80 39 13 = hm 39 13)] : h80 39 13 = hm 39 13)]) (by split <;> omega)⟩
                  · refine z_aload_n (pc := 113) (x := 40) dX8_go_113 rfl 1 rfl ?_
                    refine z_aload_n (pc := 114) (x := 40) dX8_go_114 rfl 1 rfl ?_
                    refine z_getI (pc := 115) (pl := 39) (f := 11) (ci := 7) (C := RX8) (T := TX8) (N := 33) hu_X8 (by decide) rfl rfl (by decide) rfl (List.mem_cons_of_mem _ (iw27 _ (List.mem_of_getElem? (i := 10) rfl))) rfl (by decide) dX8_go_115 (fun v81 ev81 rv81 => ?_)
                    refine z_aload_n (pc := 118) (x := 40) dX8_go_118 rfl 1 rfl ?_
                    refine z_getI (pc := 119) (pl := 39) (f := 10) (ci := 7) (C := RX8) (T := TX8) (N := 33) hu_X8 (by decide) rfl rfl (by decide) rfl (List.mem_cons_of_mem _ (iw27 _ (List.mem_of_getElem? (i := 15) rfl))) rfl (by decide) dX8_go_119 (fun v82 ev82 rv82 => ?_)
                    refine z_isub (pc := 122) dX8_go_122 (fun v83 ev83 => ?_)
                    refine z_bipush (pc := 123) (v := 7) dX8_go_123 (by decide +kernel) ?_
                    refine z_icmp_ge (pc := 125) (tgt := 153) dX8_go_125 (by decide) ⟨by omega, by omega⟩ ⟨by decide, by decide⟩ (fun c84 => ?_) (fun c84 => ?_)
                    · refine z_aload_n (pc := 153) (x := 40) dX8_go_153 rfl 1 rfl ?_
                      refine z_getL (pc := 154) (pl := 39) (f := 14) (ci := 7) (C := RX8) (T := TX8) (N := 33) hu_X8 (by decide) rfl rfl (by decide) rfl (List.mem_cons_of_mem _ (iw27 _ (List.mem_of_getElem? (i := 17) rfl))) rfl dX8_go_154 (fun v85 ev85 rv85 => ?_)
                      refine z_putL (pc := 157) (pl := 39) (f := 14) (ci := 7) (C := RX8) (T := TX8) (N := 33) hu_X8 tyX8_ok nmX8 (by decide) rfl rfl (by decide) rfl (List.mem_cons_of_mem _ (iw27 _ (List.mem_of_getElem? (i := 17) rfl))) rfl rfl (by decide +kernel) ⟨by omega, by omega⟩ (by decide) dX8_go_157 (fun h86 eh86 => ?_)
                      have frh86 : Fr [39] hi h86 := (Fr.put frlhm eh86 (by decide))
                      have ff39h86 : FF 39 [10, 11, 12, 13, 14] hi h86 := FF.put ffl39hm eh86 (by decide)
                      refine z_aload_n (pc := 160) (x := 40) dX8_go_160 rfl 1 rfl ?_
                      refine z_dup (pc := 161) dX8_go_161 rfl ?_
                      refine z_getI (pc := 162) (pl := 39) (f := 11) (ci := 7) (C := RX8) (T := TX8) (N := 33) hu_X8 (by decide) rfl rfl (by decide) rfl (List.mem_cons_of_mem _ (iw27 _ (List.mem_of_getElem? (i := 10) rfl))) rfl (by decide) dX8_go_162 (fun v87 ev87 rv87 => ?_)
                      rw [(by rw [eh86]; rfl : h86 39 11 = hm 39 11)] at ev87
                      refine z_iconst (pc := 165) (v := 1) dX8_go_165 rfl ?_
                      refine z_iadd (pc := 166) dX8_go_166 (fun v88 ev88 => ?_)
                      refine z_putI (pc := 167) (pl := 39) (f := 11) (ci := 7) (C := RX8) (T := TX8) (N := 33) hu_X8 tyX8_ok nmX8 (by decide) rfl rfl (by decide) rfl (List.mem_cons_of_mem _ (iw27 _ (List.mem_of_getElem? (i := 10) rfl))) rfl rfl (ty := .int) (by decide +kernel) rfl rfl ⟨by omega, by omega⟩ dX8_go_167 (fun h89 eh89 => ?_)
                      have frh89 : Fr [39] hi h89 := (Fr.put frh86 eh89 (by decide))
                      have ff39h89 : FF 39 [10, 11, 12, 13, 14] hi h89 := FF.put ff39h86 eh89 (by decide)
                      refine z_goto (pc := 170) (tgt := 92) dX8_go_170 (by decide) ?_
                      exact ih92 h89 (by rw [(by rw [(by rw [eh89]; rfl : h89 39 11 = v88)] : h89 39 11 = v88)]; omega) (le_step j1 (by rw [(by rw [(by rw [eh89]; rfl : h89 39 11 = v88)] : h89 39 11 = v88)]; omega) (by omega)) (by rw [(by rw [(by rw [eh89]; rfl : h89 39 14 = h86 39 14), (by rw [eh86]; rfl : h86 39 14 = v85)] : h89 39 14 = v85), (by rw [(by rw [eh89]; rfl : h89 39 11 = v88)] : h89 39 11 = v88)]; first | exact pk_step (by omega) (by omega) (by omega) j2 (by omega) | exact pk_stay (by omega) (by omega) j2 (by omega)) (by rw [(by rw [(by rw [eh89]; rfl : h89 39 10 = h86 39 10), (by rw [eh86]; rfl : h86 39 10 = hm 39 10)] : h89 39 10 = hm 39 10)]; exact j3) (frh89) (ff39h89) (by rw [(by rw [(by rw [eh89]; rfl : h89 39 11 = v88)] : h89 39 11 = v88)]; omega)
                    · refine z_ldc2 (pc := 128) (v := 32) (x := 32) (List.mem_cons_of_mem _ (iw27 _ (List.mem_of_getElem? (i := 20) rfl))) (by decide +kernel) dX8_go_128 ?_
                      refine z_aload_n (pc := 131) (x := 40) dX8_go_131 rfl 1 rfl ?_
                      refine z_getL (pc := 132) (pl := 39) (f := 14) (ci := 7) (C := RX8) (T := TX8) (N := 33) hu_X8 (by decide) rfl rfl (by decide) rfl (List.mem_cons_of_mem _ (iw27 _ (List.mem_of_getElem? (i := 17) rfl))) rfl dX8_go_132 (fun v90 ev90 rv90 => ?_)
                      refine z_lmul (pc := 135) dX8_go_135 (fun v91 ev91 => ?_)
                      refine z_aload_n (pc := 136) (x := 40) dX8_go_136 rfl 1 rfl ?_
                      refine z_aload_n (pc := 137) (x := 40) dX8_go_137 rfl 1 rfl ?_
                      refine z_getI (pc := 138) (pl := 39) (f := 11) (ci := 7) (C := RX8) (T := TX8) (N := 33) hu_X8 (by decide) rfl rfl (by decide) rfl (List.mem_cons_of_mem _ (iw27 _ (List.mem_of_getElem? (i := 10) rfl))) rfl (by decide) dX8_go_138 (fun v92 ev92 rv92 => ?_)
                      refine z_callV (pc := 141) (kc := kX8_byteAt) (n := 1) (pl := 39) (ci := 7) (C := RX8) (As := [AI v92]) (stk := [AL v91, AR 40]) ct_X8_byteAt (gdV rfl rfl (iw28 _ (List.mem_of_getElem? (i := 0) rfl)) (iw28 _ (List.mem_of_getElem? (i := 1) rfl)) (iw28 _ (List.mem_of_getElem? (i := 2) rfl)) (iw1 _ (List.mem_of_getElem? (i := 5) rfl)) (iw28 _ (List.mem_of_getElem? (i := 3) rfl))) rfl ⟨rfl, rfl⟩ (by decide +kernel) ⟨by decide, by decide⟩ (by decide) rfl rfl dX8_go_141 rfl rfl (Nat.le_of_ble_eq_true rfl) ?_
                      refine ⟨_, rfl, by (try rw [(frlhm 45 (by decide) : hm 45 = hi 45)]); (try rw [(ffl39hm 9 (by decide) : hm 39 9 = hi 39 9)]); omega, fun v93 ev93 => ?_⟩
                      try rw [(frlhm 45 (by decide) : hm 45 = hi 45)] at ev93
                      try rw [(ffl39hm 9 (by decide) : hm 39 9 = hi 39 9)] at ev93
                      replace ev93 : (v92 < hi 39 9 ∧ v93 = fM hi v92.toNat) ∨ (hi 39 9 ≤ v92 ∧ v93 = -1) := ev93
                      rw [ev92] at ev93
                      have bbv93 := fM_bd hi (hm 39 11).toNat
                      refine z_i2l (pc := 144) dX8_go_144 ⟨by omega, by omega⟩ ?_
                      refine z_ladd (pc := 145) dX8_go_145 (fun v94 ev94 => ?_)
                      refine z_ldc2 (pc := 146) (v := 96) (x := 96) (List.mem_cons_of_mem _ (iw27 _ (List.mem_of_getElem? (i := 21) rfl))) (by decide +kernel) dX8_go_146 ?_
                      refine z_lsub (pc := 149) dX8_go_149 (fun v95 ev95 => ?_)
                      refine z_goto (pc := 150) (tgt := 157) dX8_go_150 (by decide) ?_
                      refine z_putL (pc := 157) (pl := 39) (f := 14) (ci := 7) (C := RX8) (T := TX8) (N := 33) hu_X8 tyX8_ok nmX8 (by decide) rfl rfl (by decide) rfl (List.mem_cons_of_mem _ (iw27 _ (List.mem_of_getElem? (i := 17) rfl))) rfl rfl (by decide +kernel) ⟨by omega, by omega⟩ (by decide) dX8_go_157 (fun h96 eh96 => ?_)
                      have frh96 : Fr [39] hi h96 := (Fr.put frlhm eh96 (by decide))
                      have ff39h96 : FF 39 [10, 11, 12, 13, 14] hi h96 := FF.put ffl39hm eh96 (by decide)
                      refine z_aload_n (pc := 160) (x := 40) dX8_go_160 rfl 1 rfl ?_
                      refine z_dup (pc := 161) dX8_go_161 rfl ?_
                      refine z_getI (pc := 162) (pl := 39) (f := 11) (ci := 7) (C := RX8) (T := TX8) (N := 33) hu_X8 (by decide) rfl rfl (by decide) rfl (List.mem_cons_of_mem _ (iw27 _ (List.mem_of_getElem? (i := 10) rfl))) rfl (by decide) dX8_go_162 (fun v97 ev97 rv97 => ?_)
                      rw [(by rw [eh96]; rfl : h96 39 11 = hm 39 11)] at ev97
                      refine z_iconst (pc := 165) (v := 1) dX8_go_165 rfl ?_
                      refine z_iadd (pc := 166) dX8_go_166 (fun v98 ev98 => ?_)
                      refine z_putI (pc := 167) (pl := 39) (f := 11) (ci := 7) (C := RX8) (T := TX8) (N := 33) hu_X8 tyX8_ok nmX8 (by decide) rfl rfl (by decide) rfl (List.mem_cons_of_mem _ (iw27 _ (List.mem_of_getElem? (i := 10) rfl))) rfl rfl (ty := .int) (by decide +kernel) rfl rfl ⟨by omega, by omega⟩ dX8_go_167 (fun h99 eh99 => ?_)
                      have frh99 : Fr [39] hi h99 := (Fr.put frh96 eh99 (by decide))
                      have ff39h99 : FF 39 [10, 11, 12, 13, 14] hi h99 := FF.put ff39h96 eh99 (by decide)
                      refine z_goto (pc := 170) (tgt := 92) dX8_go_170 (by decide) ?_
                      exact ih92 h99 (by rw [(by rw [(by rw [eh99]; rfl : h99 39 11 = v98)] : h99 39 11 = v98)]; omega) (le_step j1 (by rw [(by rw [(by rw [eh99]; rfl : h99 39 11 = v98)] : h99 39 11 = v98)]; omega) (by omega)) (by rw [(by rw [(by rw [eh99]; rfl : h99 39 14 = h96 39 14), (by rw [eh96]; rfl : h96 39 14 = v95)] : h99 39 14 = v95), (by rw [(by rw [eh99]; rfl : h99 39 11 = v98)] : h99 39 11 = v98)]; first | exact pk_step (by omega) (by omega) (by omega) j2 (by omega) | exact pk_stay (by omega) (by omega) j2 (by omega)) (by rw [(by rw [(by rw [eh99]; rfl : h99 39 10 = h96 39 10), (by rw [eh96]; rfl : h96 39 10 = hm 39 10)] : h99 39 10 = hm 39 10)]; exact j3) (frh99) (ff39h99) (by rw [(by rw [(by rw [eh99]; rfl : h99 39 11 = v98)] : h99 39 11 = v98)]; omega)
              exact J92 _ h13 (by rw [(by rw [(by rw [eh13]; rfl : h13 39 11 = h12 39 11), (by rw [eh12]; rfl : h12 39 11 = h11 39 11), (by rw [eh11]; rfl : h11 39 11 = hk 39 11)] : h13 39 11 = hk 39 11)]; omega) (fun q q0 q1 => by rw [(by rw [(by rw [eh13]; rfl : h13 39 11 = h12 39 11), (by rw [eh12]; rfl : h12 39 11 = h11 39 11), (by rw [eh11]; rfl : h11 39 11 = hk 39 11)] : h13 39 11 = hk 39 11)] at q1; omega) (pk_0 (by rw [(by rw [eh13]; rfl : h13 39 11 = h12 39 11), (by rw [eh12]; rfl : h12 39 11 = h11 39 11), (by rw [eh11]; rfl : h11 39 11 = hk 39 11)] : h13 39 11 = hk 39 11) (by rw [(by rw [eh13]; rfl : h13 39 14 = 0)] : h13 39 14 = 0)) (by rw [(by rw [(by rw [eh13]; rfl : h13 39 10 = h12 39 10), (by rw [eh12]; rfl : h12 39 10 = h11 39 10), (by rw [eh11]; rfl : h11 39 10 = v10)] : h13 39 10 = v10)]; omega) (frh13) (ff39h13) (Nat.lt_succ_self _)
          · refine z_aload_n (pc := 70) (x := 40) dX8_go_70 rfl 1 rfl ?_
            refine z_iconst (pc := 71) (v := 0) dX8_go_71 rfl ?_
            refine z_putI (pc := 72) (pl := 39) (f := 12) (ci := 7) (C := RX8) (T := TX8) (N := 33) hu_X8 tyX8_ok nmX8 (by decide) rfl rfl (by decide) rfl (List.mem_cons_of_mem _ (iw27 _ (List.mem_of_getElem? (i := 2) rfl))) rfl rfl (ty := .int) (by decide +kernel) rfl rfl ⟨by decide, by decide⟩ dX8_go_72 (fun h100 eh100 => ?_)
            have frh100 : Fr [39] hi h100 := (Fr.put frh13 eh100 (by decide))
            have ff39h100 : FF 39 [10, 11, 12, 13, 14] hi h100 := FF.put ff39h13 eh100 (by decide)
            refine z_goto (pc := 75) (tgt := 387) dX8_go_75 (by decide) ?_
            refine z_vret (pc := 387) rfl dX8_go_387 ?_
            exact hQ h100 ⟨frh100, ff39h100, by first | exact go_e (p := hk 39 11) (by omega) i1 (by omega) (by rw [(by rw [(by rw [eh100]; rfl : h100 39 10 = h13 39 10), (by rw [eh13]; rfl : h13 39 10 = h12 39 10), (by rw [eh12]; rfl : h12 39 10 = h11 39 10), (by rw [eh11]; rfl : h11 39 10 = v10)] : h100 39 10 = v10)]; omega) (by rw [(by rw [(by rw [eh100]; rfl : h100 39 11 = h13 39 11), (by rw [eh13]; rfl : h13 39 11 = h12 39 11), (by rw [eh12]; rfl : h12 39 11 = h11 39 11), (by rw [eh11]; rfl : h11 39 11 = hk 39 11)] : h100 39 11 = hk 39 11)]) (by rw [(by rw [eh100]; rfl : h100 39 12 = 0)] : h100 39 12 = 0) (by omega) | exact go_s (p := hk 39 11) (by omega) i1 (by omega) (by omega) (by omega) (by omega) (by omega) (by rw [(by rw [(by rw [eh100]; rfl : h100 39 10 = h13 39 10), (by rw [eh13]; rfl : h13 39 10 = h12 39 10), (by rw [eh12]; rfl : h12 39 10 = h11 39 10), (by rw [eh11]; rfl : h11 39 10 = v10)] : h100 39 10 = v10)]; omega) (by rw [(by rw [eh100]; rfl : h100 39 11 = h13 39 11), (by rw [eh13]; rfl : h13 39 11 = h12 39 11), (by rw [eh12]; rfl : h12 39 11 = h11 39 11), (by rw [eh11]; rfl : h11 39 11 = hk 39 11)] : h100 39 11 = hk 39 11) (by rw [(by rw [eh100]; rfl : h100 39 12 = 0)] : h100 39 12 = 0) (by rw [(by rw [eh100]; rfl : h100 39 13 = h13 39 13), (by rw [eh13]; rfl : h13 39 13 = h12 39 13), (by rw [eh12]; rfl : h12 39 13 = 0)] : h100 39 13 = 0) (by omega) | exact go_w (p := hk 39 11) (by omega) i1 (by omega) (by omega) (by omega) j1 (by omega) j2 (by rw [(by rw [(by rw [eh100]; rfl : h100 39 10 = h13 39 10), (by rw [eh13]; rfl : h13 39 10 = h12 39 10), (by rw [eh12]; rfl : h12 39 10 = h11 39 10), (by rw [eh11]; rfl : h11 39 10 = v10)] : h100 39 10 = v10)]; omega) (by rw [(by rw [(by rw [eh100]; rfl : h100 39 11 = h13 39 11), (by rw [eh13]; rfl : h13 39 11 = h12 39 11), (by rw [eh12]; rfl : h12 39 11 = h11 39 11), (by rw [eh11]; rfl : h11 39 11 = hk 39 11)] : h100 39 11 = hk 39 11)]) (by rw [(by rw [eh100]; rfl : h100 39 12 = 0)] : h100 39 12 = 0) (by rw [(by rw [(by rw [eh100]; rfl : h100 39 14 = h13 39 14), (by rw [eh13]; rfl : h13 39 14 = 0)] : h100 39 14 = 0)]) (by split <;> omega) | exact go_d (p := hk 39 11) (by omega) i1 (by omega) (by omega) (by omega) j1 (by omega) j2 (by rw [(by rw [(by rw [eh100]; rfl : h100 39 10 = h13 39 10), (by rw [eh13]; rfl : h13 39 10 = h12 39 10), (by rw [eh12]; rfl : h12 39 10 = h11 39 10), (by rw [eh11]; rfl : h11 39 10 = v10)] : h100 39 10 = v10)]; omega) (by rw [(by rw [(by rw [eh100]; rfl : h100 39 11 = h13 39 11), (by rw [eh13]; rfl : h13 39 11 = h12 39 11), (by rw [eh12]; rfl : h12 39 11 = h11 39 11), (by rw [eh11]; rfl : h11 39 11 = hk 39 11)] : h100 39 11 = hk 39 11)]) (by rw [(by rw [eh100]; rfl : h100 39 12 = 0)] : h100 39 12 = 0) (by rw [(by rw [(by rw [eh100]; rfl : h100 39 13 = h13 39 13), (by rw [eh13]; rfl : h13 39 13 = h12 39 13), (by rw [eh12]; rfl : h12 39 13 = 0)] : h100 39 13 = 0)]) (by split <;> omega)⟩
        · refine z_aload_n (pc := 26) (x := 40) dX8_go_26 rfl 0 rfl ?_
          refine z_dup (pc := 27) dX8_go_27 rfl ?_
          refine z_getI (pc := 28) (pl := 39) (f := 11) (ci := 7) (C := RX8) (T := TX8) (N := 33) hu_X8 (by decide) rfl rfl (by decide) rfl (List.mem_cons_of_mem _ (iw27 _ (List.mem_of_getElem? (i := 10) rfl))) rfl (by decide) dX8_go_28 (fun v101 ev101 rv101 => ?_)
          refine z_iconst (pc := 31) (v := 1) dX8_go_31 rfl ?_
          refine z_iadd (pc := 32) dX8_go_32 (fun v102 ev102 => ?_)
          refine z_putI (pc := 33) (pl := 39) (f := 11) (ci := 7) (C := RX8) (T := TX8) (N := 33) hu_X8 tyX8_ok nmX8 (by decide) rfl rfl (by decide) rfl (List.mem_cons_of_mem _ (iw27 _ (List.mem_of_getElem? (i := 10) rfl))) rfl rfl (ty := .int) (by decide +kernel) rfl rfl ⟨by omega, by omega⟩ dX8_go_33 (fun h103 eh103 => ?_)
          have frh103 : Fr [39] hi h103 := (Fr.put frlhk eh103 (by decide))
          have ff39h103 : FF 39 [10, 11, 12, 13, 14] hi h103 := FF.put ffl39hk eh103 (by decide)
          refine z_goto (pc := 36) (tgt := 0) dX8_go_36 (by decide) ?_
          exact ih0 h103 (by rw [(by rw [(by rw [eh103]; rfl : h103 39 11 = v102)] : h103 39 11 = v102)]; omega) (bl_step i1 (by rw [(by rw [(by rw [eh103]; rfl : h103 39 11 = v102)] : h103 39 11 = v102)]; omega) (by omega)) (frh103) (ff39h103) (by rw [(by rw [(by rw [eh103]; rfl : h103 39 11 = v102)] : h103 39 11 = v102)]; omega)
  exact J0 _ hi (by omega) (fun q q0 q1 => by omega) ((Fr.rf)) ((FF.rf)) (Nat.lt_succ_self _)

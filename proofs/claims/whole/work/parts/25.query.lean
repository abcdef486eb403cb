/-- how many of the first n have P -/
noncomputable def cntP (P : Int → Prop) : Nat → Int
  | 0 => 0
  | n + 1 => cntP P n + @ite Int (P n) (Classical.propDecidable _) 1 0
theorem cntP_yes {P : Int → Prop} {k k' acc acc' : Int} (h0 : 0 ≤ k) (hk : k' = k + 1) (ha : acc = cntP P k.toNat) (hp : P k) (hv : acc' = acc + 1) : acc' = cntP P k'.toNat := by
  obtain ⟨n, rfl⟩ : ∃ n : Nat, k = n := ⟨k.toNat, by omega⟩
  subst hk
  have e : ((n : Int) + 1).toNat = n + 1 := by omega
  rw [e, hv, ha]
  show _ = cntP P n + @ite Int (P n) (Classical.propDecidable _) 1 0
  rw [if_pos hp]; rfl
theorem cntP_no {P : Int → Prop} {k k' acc acc' : Int} (h0 : 0 ≤ k) (hk : k' = k + 1) (ha : acc = cntP P k.toNat) (hp : ¬ P k) (hv : acc' = acc) : acc' = cntP P k'.toNat := by
  obtain ⟨n, rfl⟩ : ∃ n : Nat, k = n := ⟨k.toNat, by omega⟩
  subst hk
  have e : ((n : Int) + 1).toNat = n + 1 := by omega
  rw [e, hv, ha]
  show _ = cntP P n + @ite Int (P n) (Classical.propDecidable _) 1 0
  rw [if_neg hp, Int.add_zero]; rfl
theorem cntP_0 {P : Int → Prop} {k acc : Int} (hk : k = 0) (ha : acc = 0) : acc = cntP P k.toNat := by subst hk; subst ha; rfl
theorem cntP_congr {P R : Int → Prop} : ∀ {n : Nat}, (∀ z : Int, 0 ≤ z → z < n → (P z ↔ R z)) → cntP P n = cntP R n
  | 0, _ => rfl
  | n + 1, h => by
    show cntP P n + @ite Int (P n) (Classical.propDecidable _) 1 0 = cntP R n + @ite Int (R n) (Classical.propDecidable _) 1 0
    rw [cntP_congr (fun z h0 h1 => h z h0 (by omega))]
    congr 1
    by_cases q : P n
    · rw [if_pos q, if_pos ((h n (by omega) (by omega)).mp q)]
    · rw [if_neg q, if_neg (fun z => q ((h n (by omega) (by omega)).mpr z))]
theorem cntP_bd {P : Int → Prop} : ∀ n : Nat, 0 ≤ cntP P n ∧ cntP P n ≤ n
  | 0 => by simp [cntP]
  | n + 1 => by
    have ih := cntP_bd (P := P) n
    show 0 ≤ cntP P n + @ite Int (P n) (Classical.propDecidable _) 1 0 ∧ cntP P n + @ite Int (P n) (Classical.propDecidable _) 1 0 ≤ _
    by_cases q : P n
    · rw [if_pos q]; omega
    · rw [if_neg q]; omega
/-- how many of the first n live at h -/
def cA (f : Nat → Int) (h : Int) (n : Nat) : Int := sm (fun z => if al f z h then 1 else 0) n
/-- the value of the i-th of those that live at h, among the first n; -2 -/
def ak (f : Nat → Int) (h : Int) : Nat → Int → Int
  | 0, _ => -2
  | n + 1, i => if cA f h n = i ∧ al f n h then nO f n else ak f h n i
theorem ak_succ (f : Nat → Int) (h : Int) (n : Nat) (i : Int) : ak f h (n + 1) i = if cA f h n = i ∧ al f n h then nO f n else ak f h n i := rfl
theorem cA_bd (f : Nat → Int) (h : Int) (n : Nat) : 0 ≤ cA f h n ∧ cA f h n ≤ n := by
  have q := sm_bd (g := fun z => if al f z h then 1 else 0) (a := 0) (b := 1) (by decide) (by decide) (n := n) (fun z _ _ => by
    by_cases hc : al f z h
    · simp only [if_pos hc]; omega
    · simp only [if_neg hc]; omega)
  have q1 : (n : Int) * 0 ≤ cA f h n := q.1
  have q2 : cA f h n ≤ (n : Int) * 1 := q.2
  omega
theorem cA_succ (f : Nat → Int) (h : Int) (n : Nat) : cA f h (n + 1) = cA f h n + if al f n h then 1 else 0 := rfl
theorem ak_ge {f : Nat → Int} {h i : Int} : ∀ {n : Nat}, cA f h n ≤ i → ak f h n i = -2
  | 0, _ => rfl
  | n + 1, q => by
    have q1 := cA_succ f h n
    rw [ak_succ]
    by_cases r : al f n h
    · rw [if_pos r] at q1
      rw [if_neg (by rintro ⟨a, b⟩; omega)]; exact ak_ge (by omega)
    · rw [if_neg r] at q1
      rw [if_neg (fun z => r z.2)]; exact ak_ge (by omega)
theorem ak_stay {f : Nat → Int} {h i : Int} {n : Nat} (q : i < cA f h n) : ∀ m : Nat, ak f h (n + m) i = ak f h n i ∧ i < cA f h (n + m)
  | 0 => ⟨rfl, q⟩
  | m + 1 => by
    obtain ⟨a1, a2⟩ := ak_stay q m
    have q1 := cA_succ f h (n + m)
    refine ⟨?_, ?_⟩
    · show ak f h (n + m + 1) i = _
      rw [ak_succ, if_neg (by rintro ⟨a, b⟩; omega), a1]
    · show i < cA f h (n + m + 1)
      rw [q1]; split <;> omega
theorem ak_at {f : Nat → Int} {h i : Int} {n z : Nat} (hz : z < n) (ha : al f z h) (hc : cA f h z = i) : ak f h n i = nO f z := by
  have q1 := cA_succ f h z
  rw [if_pos ha] at q1
  have q2 := (ak_stay (f := f) (h := h) (i := i) (n := z + 1) (by omega) (n - (z + 1))).1
  rw [show z + 1 + (n - (z + 1)) = n by omega] at q2
  rw [q2, ak_succ, if_pos ⟨hc, ha⟩]
/-- the place with the greatest step among the first k pairs of neighbours: (number, step) -/
def gs (A : Int → Int) : Nat → Int × Int
  | 0 => (-2, 0)
  | k + 1 => if (gs A k).2 < A (k + 1) - A k then (A k, A (k + 1) - A k) else gs A k
/-- the first of n at which g is greatest -/
def Amx (g : Int → Int) (n b : Int) : Prop := 0 ≤ b ∧ b < n ∧ (∀ h, 0 ≤ h → h < n → g h ≤ g b) ∧ ∀ h, 0 ≤ h → h < b → g h < g b
theorem Amx.uniq {g : Int → Int} {n b c : Int} (h1 : Amx g n b) (h2 : Amx g n c) : b = c := by
  obtain ⟨a1, a2, a3, a4⟩ := h1
  obtain ⟨b1, b2, b3, b4⟩ := h2
  rcases Int.lt_trichotomy b c with q | q | q
  · have := b4 b a1 q; have := a3 c b1 b2; omega
  · exact q
  · have := a4 c b1 q; have := b3 b a1 a2; omega
theorem amx_new {g : Int → Int} {k k' b : Int} (h0 : 0 ≤ k) (hk : k' = k + 1) (hb : k = 0 ∨ Amx g k b) (h : k = 0 ∨ g b < g k) : Amx g k' k := by
  subst hk
  refine ⟨h0, by omega, fun z z0 z1 => ?_, fun z z0 z1 => ?_⟩
  · rcases Int.lt_or_eq_of_le (show z ≤ k by omega) with q | q
    · rcases hb with hb | hb
      · omega
      · have := hb.2.2.1 z z0 q; omega
    · rw [q]; exact Int.le_refl _
  · rcases hb with hb | hb
    · omega
    · have := hb.2.2.1 z z0 z1; omega
theorem amx_old {g : Int → Int} {k k' b : Int} (hk : k' = k + 1) (hb : Amx g k b) (h : g k ≤ g b) : Amx g k' b := by
  subst hk
  refine ⟨hb.1, by have := hb.2.1; omega, fun z z0 z1 => ?_, hb.2.2.2⟩
  rcases Int.lt_or_eq_of_le (show z ≤ k by omega) with q | q
  · exact hb.2.2.1 z z0 q
  · rw [q]; exact h
/-- all, some of a number's hours from a to b -/
def AllH (f : Nat → Int) (n x a b : Int) : Prop := ∀ h, a ≤ h → h ≤ b → Hrs f n x (-1) h
def SomeH (f : Nat → Int) (n x a b : Int) : Prop := ∃ h, a ≤ h ∧ h ≤ b ∧ Hrs f n x (-1) h
theorem all_iff {f : Nat → Int} {n x a b y v1 v2 v3 : Int} (ha : 0 ≤ a) (hb : b < 64) (hy : y = b + 1) (h1 : inL v1 ∧ ∀ h : Int, 0 ≤ h → h < 64 → (bit v1 h ↔ (a ≤ h ∧ h < y))) (h2 : ∀ h : Int, 0 ≤ h → h < 64 → (bit v2 h ↔ Hrs f n x (-1) h)) (e : v3 = (iL v2 &&& iL v1).toInt) : AllH f n x a b ↔ v3 = v1 := by
  subst hy
  constructor
  · intro q
    refine bit_inj (toL_inL e) h1.1 (fun h h0 h3 => ?_)
    rw [bit_and e, h1.2 h h0 h3, h2 h h0 h3]
    exact ⟨fun z => z.2, fun z => ⟨q h z.1 (by omega), z⟩⟩
  · intro q h h0 h3
    have q1 := (h1.2 h (by omega) (by omega)).mpr ⟨h0, by omega⟩
    rw [← q] at q1
    exact (h2 h (by omega) (by omega)).mp ((bit_and e).mp q1).1
theorem some_iff {f : Nat → Int} {n x a b y v1 v2 v3 : Int} (ha : 0 ≤ a) (hb : b < 64) (hy : y = b + 1) (h1 : inL v1 ∧ ∀ h : Int, 0 ≤ h → h < 64 → (bit v1 h ↔ (a ≤ h ∧ h < y))) (h2 : ∀ h : Int, 0 ≤ h → h < 64 → (bit v2 h ↔ Hrs f n x (-1) h)) (e : v3 = (iL v2 &&& iL v1).toInt) : SomeH f n x a b ↔ v3 ≠ 0 := by
  subst hy
  rw [ne_eq, bit_zero_iff (toL_inL e)]
  constructor
  · rintro ⟨h, h0, h3, h4⟩ q
    exact q h (by omega) (by omega) ((bit_and e).mpr ⟨(h2 h (by omega) (by omega)).mpr h4, (h1.2 h (by omega) (by omega)).mpr ⟨h0, by omega⟩⟩)
  · intro q
    apply Classical.byContradiction
    intro z
    refine q (fun h h0 h3 c => z ?_)
    obtain ⟨c1, c2⟩ := (bit_and e).mp c
    have c3 := (h1.2 h h0 h3).mp c2
    exact ⟨h, c3.1, by omega, (h2 h h0 h3).mp c1⟩
/-- the numbers that live at h, as the class goes through them: lower, widest, the last one -/
def GapI (f : Nat → Int) (h : Int) (k lo wi ne : Int) : Prop := (cA f h k.toNat = 0 ∧ lo = -2 ∧ wi = 0 ∧ ne = -1) ∨ (0 < cA f h k.toNat ∧ ne = ak f h k.toNat (cA f h k.toNat - 1) ∧ (lo, wi) = gs (ak f h k.toNat) (cA f h k.toNat - 1).toNat)
theorem gs_congr {A B : Int → Int} : ∀ {k : Nat}, (∀ i : Int, 0 ≤ i → i ≤ k → A i = B i) → gs A k = gs B k
  | 0, _ => rfl
  | k + 1, h => by
    unfold gs
    rw [gs_congr (fun i h0 h1 => h i h0 (by omega)), h k (by omega) (by omega), h (k + 1) (by omega) (by omega)]
theorem gap_skip {f : Nat → Int} {h k k' lo wi ne : Int} (h0 : 0 ≤ k) (hk : k' = k + 1) (i : GapI f h k lo wi ne) (ha : ¬ al f k h) : GapI f h k' lo wi ne := by
  obtain ⟨n, rfl⟩ : ∃ n : Nat, k = n := ⟨k.toNat, by omega⟩
  subst hk
  have e : ((n : Int) + 1).toNat = n + 1 := by omega
  have q1 := cA_succ f h n
  rw [if_neg ha] at q1
  have q2 : ∀ i, ak f h (n + 1) i = ak f h n i := fun i => by
    rw [ak_succ, if_neg (fun z => ha z.2)]
  unfold GapI at i ⊢
  rw [e, q1, Int.add_zero]
  rw [Int.toNat_natCast] at i
  rw [show ak f h (n + 1) = ak f h n from funext q2]
  exact i
theorem gap_new {f : Nat → Int} {h k k' lo wi ne lo' wi' ne' : Int} (h0 : 0 ≤ k) (hk : k' = k + 1) (i : GapI f h k lo wi ne) (ha : al f k h) (hne : ne' = nO f k) (hn0 : 0 ≤ nO f k) (hs : ne ≠ -1 ∧ wi < nO f k - ne → lo' = ne ∧ wi' = nO f k - ne) (hs2 : ne = -1 ∨ nO f k - ne ≤ wi → lo' = lo ∧ wi' = wi) (hpos : ∀ z, 0 ≤ z → z < k → 0 ≤ nO f z) : GapI f h k' lo' wi' ne' := by
  obtain ⟨n, rfl⟩ : ∃ n : Nat, k = n := ⟨k.toNat, by omega⟩
  subst hk
  have e : ((n : Int) + 1).toNat = n + 1 := by omega
  have q1 := cA_succ f h n
  rw [if_pos ha] at q1
  have bd := cA_bd f h n
  have a1 : ak f h (n + 1) (cA f h n) = nO f n := by
    rw [ak_succ, if_pos ⟨rfl, ha⟩]
  have a2 : ∀ i, i ≠ cA f h n → ak f h (n + 1) i = ak f h n i := fun i hi => by
    rw [ak_succ, if_neg (fun z => hi z.1.symm)]
  unfold GapI at i ⊢
  rw [e, q1]
  rw [Int.toNat_natCast] at i
  right
  refine ⟨by omega, by rw [hne, show cA f h n + 1 - 1 = cA f h n by omega, a1], ?_⟩
  rw [show cA f h n + 1 - 1 = cA f h n by omega]
  rcases i with ⟨c0, c1, c2, c3⟩ | ⟨c0, c1, c2⟩
  · obtain ⟨r1, r2⟩ := hs2 (Or.inl c3)
    rw [c0, r1, r2, c1, c2]; rfl
  · obtain ⟨m, hm⟩ : ∃ m : Nat, cA f h n = m + 1 := ⟨(cA f h n - 1).toNat, by omega⟩
    have em : (cA f h n - 1).toNat = m := by omega
    have hneg : ne ≠ -1 := by
      have : ∀ j : Nat, ∀ i : Int, 0 ≤ i → i < cA f h j → j ≤ n → 0 ≤ ak f h j i := by
        intro j
        induction j with
        | zero => intro i i0 i1 _; have := cA_bd f h 0; omega
        | succ j ih =>
          intro i i0 i1 hj
          have w := cA_succ f h j
          rw [ak_succ]
          by_cases hw : cA f h j = i ∧ al f j h
          · rw [if_pos hw]; exact hpos j (by omega) (by omega)
          · rw [if_neg hw]
            refine ih i i0 ?_ (by omega)
            have w2 : cA f h j ≠ i ∨ ¬ al f j h := by
              by_cases r : al f j h
              · left; intro z; exact hw ⟨z, r⟩
              · exact Or.inr r
            by_cases r : al f j h
            · rw [if_pos r] at w
              rcases w2 with w2 | w2
              · omega
              · exact absurd r w2
            · rw [if_neg r] at w; omega
      have := this n (cA f h n - 1) (by omega) (by omega) (Nat.le_refl _)
      omega
    rw [em] at c2
    rw [show (cA f h n).toNat = m + 1 by omega]
    have g1 : gs (ak f h (n + 1)) m = gs (ak f h n) m := gs_congr (fun i i0 i1 => a2 i (by omega))
    unfold gs
    rw [g1, ← c2]
    have e1 : ak f h (n + 1) ((m : Int) + 1) = nO f n := by rw [← hm]; exact a1
    have e2 : ak f h (n + 1) (m : Int) = ne := by rw [a2 _ (by omega), c1]; congr 1; omega
    rw [e1, e2]
    by_cases hd : wi < nO f n - ne
    · obtain ⟨r1, r2⟩ := hs ⟨hneg, hd⟩
      rw [if_pos hd, r1, r2]
    · obtain ⟨r1, r2⟩ := hs2 (Or.inr (by omega))
      rw [if_neg hd, r1, r2]
theorem gap_end {f : Nat → Int} {h k lo wi ne : Int} (i : GapI f h k lo wi ne) : lo = (gs (ak f h k.toNat) (cA f h k.toNat - 1).toNat).1 := by
  rcases i with ⟨c0, c1, c2, c3⟩ | ⟨c0, c1, c2⟩
  · rw [c0, c1]; rfl
  · rw [← c2]
theorem Lst.rng {P : Int → Prop} {n v : Int} (h : Lst P n v) (h0 : 0 ≤ n ∧ n ≤ 40) : -1 ≤ v ∧ v < 40 := by
  rcases h with ⟨a1, a2, a3, a4⟩ | ⟨a1, a2⟩ <;> omega
theorem cnt_rng {f : Nat → Int} {n h : Int} (hr : RI f n) : 0 ≤ sm (fun z => if al f z h then 1 else 0) n.toNat ∧ sm (fun z => if al f z h then 1 else 0) n.toNat ≤ 4000 := by
  have q := cA_bd f h n.toNat
  have := hr.1; have e : ((n.toNat : Nat) : Int) = n := by omega
  exact ⟨q.1, Int.le_trans q.2 (by omega)⟩
theorem wor_rng {f : Nat → Int} {n h : Int} (hr : RI f n) : 0 ≤ sm (fun z => if al f z h ∧ 0 ≤ nO f z ∧ nO f z ≤ 999 then wO f z else 0) n.toNat ∧ sm (fun z => if al f z h ∧ 0 ≤ nO f z ∧ nO f z ≤ 999 then wO f z else 0) n.toNat ≤ 4000 := by
  have q := sm_bd (g := fun z => if al f z h ∧ 0 ≤ nO f z ∧ nO f z ≤ 999 then wO f z else 0) (a := 0) (b := 99) (by decide) (by decide) (n := n.toNat) (fun z z0 z1 => by
    have := hr.2.1 z z0 (by omega)
    by_cases hc : al f z h ∧ 0 ≤ nO f z ∧ nO f z ≤ 999
    · simp only [if_pos hc]; omega
    · simp only [if_neg hc]; omega)
  have := hr.1
  have e : ((n.toNat : Nat) : Int) = n := by omega
  rw [e] at q
  omega
theorem crowd_step {S : Int → Int} {k k' b m b' m' s : Int} (h0 : 0 ≤ k) (hk : k' = k + 1) (i : (k = 0 ∧ b = 0 ∧ m = -1) ∨ (0 < k ∧ Amx S k b ∧ m = S b)) (hs : s = S k) (hg : 0 ≤ s ∧ s ≤ 4000) (hc : (m < s ∧ m' = s ∧ b' = k) ∨ (s ≤ m ∧ m' = m ∧ b' = b)) : (k' = 0 ∧ b' = 0 ∧ m' = -1) ∨ (0 < k' ∧ Amx S k' b' ∧ m' = S b') := by
  right
  refine ⟨by omega, ?_⟩
  rcases hc with ⟨c1, c2, c3⟩ | ⟨c1, c2, c3⟩
  · rw [c3, c2, hs]
    refine ⟨amx_new h0 hk (i.elim (fun q => Or.inl q.1) (fun q => Or.inr q.2.1)) (i.elim (fun q => Or.inl q.1) (fun q => Or.inr (by rw [← q.2.2, ← hs]; exact c1))), rfl⟩
  · rcases i with ⟨q1, q2, q3⟩ | ⟨q1, q2, q3⟩
    · omega
    · rw [c3, c2]
      exact ⟨amx_old hk q2 (by rw [← q3, ← hs]; exact c1), q3⟩
abbrev kX6_length : Kd := (cX6_length, .code yX6_length cX6_length 1 (some .int) :: wsL_law0, rmL 1, RX6, (some .int), 1)
theorem ct_X6_length : Ct kX6_length yX6_length (fun a hi Q => a = [AR 30] ∧ (True) ∧ ∀ v : Int, (v = hi 29 1 ∧ inR v) → Q (AI v) hi) := by
  refine Ct.of (ws' := _) (by decide +kernel) rfl rfl ?_
  intro a hi Q hT
  obtain ⟨rfl, hpre, hQ⟩ := hT
  refine ⟨Nat.le_of_ble_eq_true rfl, ?_⟩
  show Z kX6_length Q 0 [(0, AR 30)] [] hi
  refine z_aload_n (pc := 0) (x := 30) dX6_length_0 rfl 0 rfl ?_
  refine z_getI (pc := 1) (pl := 29) (f := 1) (ci := 5) (C := RX6) (T := TX6) (N := 9) hu_X6 (by decide) rfl rfl (by decide) rfl (List.mem_cons_of_mem _ (iw3 _ (List.mem_of_getElem? (i := 14) rfl))) rfl (by decide) dX6_length_1 (fun v1 ev1 rv1 => ?_)
  refine z_iret (pc := 4) rfl dX6_length_4 ?_
  exact hQ v1 (⟨ev1, rv1⟩)
abbrev kX7_which : Kd := (cX7_which, .code yX7_which cX7_which 4 (some .int) :: wsL_law0, rmL 4, RX7, (some .int), 4)
theorem ct_X7_which : Ct kX7_which yX7_which (fun a hi Q => ∃ x : Int, ∃ h : Int, a = [AR 1, AI x, AI h] ∧ (RI (hi 2) (hi 2 1) ∧ inR x ∧ inR h) ∧ ∀ v : Int, ((v = -1 ∧ ¬ ((0 ≤ x ∧ x ≤ 999) ∧ (0 ≤ h ∧ h < 64))) ∨ (((0 ≤ x ∧ x ≤ 999) ∧ (0 ≤ h ∧ h < 64)) ∧ ∃ k : Int, Fst (fun z => nO (hi 2) z = x ∧ al (hi 2) z h) (hi 2 1) k ∧ ((k < 0 ∧ v = -2) ∨ (0 ≤ k ∧ v = k)))) → Q (AI v) hi) := by
  refine Ct.of (ws' := _) (by decide +kernel) rfl rfl ?_
  intro a hi Q hT
  obtain ⟨x, h, rfl, hpre, hQ⟩ := hT
  refine ⟨Nat.le_of_ble_eq_true rfl, ?_⟩
  show Z kX7_which Q 0 [(0, AR 1), (1, AI x), (2, AI h)] [] hi
  refine z_iload_n (pc := 0) dX7_which_0 rfl 1 rfl ?_
  refine z_callS (pc := 1) (kc := kX7_isNumber) (n := 1) (As := [AI x]) (stk := []) ct_X7_isNumber (gdS rfl rfl (iw6 _ (List.mem_of_getElem? (i := 4) rfl)) (iw6 _ (List.mem_of_getElem? (i := 5) rfl)) (iw1 _ (List.mem_of_getElem? (i := 2) rfl)) (iw6 _ (List.mem_of_getElem? (i := 6) rfl))) rfl ⟨rfl, rfl⟩ (by decide +kernel) ⟨by decide, by decide⟩ dX7_which_1 rfl rfl (Nat.le_of_ble_eq_true rfl) ?_
  refine ⟨_, rfl, by omega, fun v1 ev1 => ?_⟩
  refine z_if_eq (pc := 4) (tgt := 14) dX7_which_4 (by decide) ⟨by omega, by omega⟩ (fun c2 => ?_) (fun c2 => ?_)
  · refine z_iconst (pc := 14) (v := (-1)) dX7_which_14 rfl ?_
    refine z_iret (pc := 15) rfl dX7_which_15 ?_
    exact hQ (-1) (by first | exact Or.inl ⟨rfl, by omega⟩ | exact Or.inr ⟨by omega, _, wf, by omega⟩)
  · refine z_iload_n (pc := 7) dX7_which_7 rfl 2 rfl ?_
    refine z_callS (pc := 8) (kc := kX7_isHour) (n := 1) (As := [AI h]) (stk := []) ct_X7_isHour (gdS rfl rfl (iw6 _ (List.mem_of_getElem? (i := 7) rfl)) (iw6 _ (List.mem_of_getElem? (i := 8) rfl)) (iw1 _ (List.mem_of_getElem? (i := 2) rfl)) (iw6 _ (List.mem_of_getElem? (i := 9) rfl))) rfl ⟨rfl, rfl⟩ (by decide +kernel) ⟨by decide, by decide⟩ dX7_which_8 rfl rfl (Nat.le_of_ble_eq_true rfl) ?_
    refine ⟨_, rfl, by omega, fun v3 ev3 => ?_⟩
    refine z_if_ne (pc := 11) (tgt := 16) dX7_which_11 (by decide) ⟨by omega, by omega⟩ (fun c4 => ?_) (fun c4 => ?_)
    · refine z_aload_n (pc := 16) (x := 1) dX7_which_16 rfl 0 rfl ?_
      refine z_getR (pc := 17) (pl := 0) (f := 0) (ci := 6) (C := RX7) (T := TX7) (N := 13) hu_X7 (by decide) rfl rfl (by decide) rfl (List.mem_cons_of_mem _ (iw1 _ (List.mem_of_getElem? (i := 16) rfl))) rfl dX7_which_17 ?_
      refine z_iload_n (pc := 20) dX7_which_20 rfl 1 rfl ?_
      refine z_iload_n (pc := 21) dX7_which_21 rfl 2 rfl ?_
      refine z_callV (pc := 22) (kc := kX1_find) (n := 2) (pl := 1) (ci := 1) (C := RX1) (As := [AI x, AI h]) (stk := []) ct_X1_find (gdV rfl rfl (iw11 _ (List.mem_of_getElem? (i := 18) rfl)) (iw11 _ (List.mem_of_getElem? (i := 19) rfl)) (iw11 _ (List.mem_of_getElem? (i := 20) rfl)) (iw1 _ (List.mem_of_getElem? (i := 15) rfl)) (iw11 _ (List.mem_of_getElem? (i := 21) rfl))) rfl ⟨rfl, rfl⟩ (by decide +kernel) ⟨by decide, by decide⟩ (by decide) rfl rfl dX7_which_22 rfl rfl (Nat.le_of_ble_eq_true rfl) ?_
      refine ⟨_, _, rfl, by have q := hpre.1.1; exact ⟨by omega, ⟨by omega, by omega⟩, ⟨by omega, by omega⟩⟩, fun v5 ev5 => ?_⟩
      have wf := ev5
      have gf := Fst.rng wf hpre.1.1
      refine z_istore_n (pc := 25) (lv' := [(3, AI v5), (0, AR 1), (1, AI x), (2, AI h)]) dX7_which_25 rfl (by decide) rfl ?_
      refine z_iload_n (pc := 26) dX7_which_26 rfl 0 rfl ?_
      refine z_if_ge (pc := 27) (tgt := 35) dX7_which_27 (by decide) ⟨by omega, by omega⟩ (fun c6 => ?_) (fun c6 => ?_)
      · refine z_iload_n (pc := 35) dX7_which_35 rfl 0 rfl ?_
        refine z_iret (pc := 36) rfl dX7_which_36 ?_
        exact hQ v5 (by first | exact Or.inl ⟨rfl, by omega⟩ | exact Or.inr ⟨by omega, _, wf, by omega⟩)
      · refine z_bipush (pc := 30) (v := (-2)) dX7_which_30 (by decide +kernel) ?_
        refine z_goto (pc := 32) (tgt := 36) dX7_which_32 (by decide) ?_
        refine z_iret (pc := 36) rfl dX7_which_36 ?_
        exact hQ (-2) (by first | exact Or.inl ⟨rfl, by omega⟩ | exact Or.inr ⟨by omega, _, wf, by omega⟩)
    · refine z_iconst (pc := 14) (v := (-1)) dX7_which_14 rfl ?_
      refine z_iret (pc := 15) rfl dX7_which_15 ?_
      exact hQ (-1) (by first | exact Or.inl ⟨rfl, by omega⟩ | exact Or.inr ⟨by omega, _, wf, by omega⟩)

abbrev kX7_alive : Kd := (cX7_alive, .code yX7_alive cX7_alive 2 (some .int) :: wsL_law0, rmL 4, RX7, (some .int), 2)
theorem ct_X7_alive : Ct kX7_alive yX7_alive (fun a hi Q => ∃ h : Int, a = [AR 1, AI h] ∧ (RI (hi 2) (hi 2 1) ∧ inR h) ∧ ∀ v : Int, ((v = -1 ∧ ¬ (0 ≤ h ∧ h < 64)) ∨ ((0 ≤ h ∧ h < 64) ∧ v = sm (fun z => if al (hi 2) z h then 1 else 0) (hi 2 1).toNat)) → Q (AI v) hi) := by
  refine Ct.of (ws' := _) (by decide +kernel) rfl rfl ?_
  intro a hi Q hT
  obtain ⟨h, rfl, hpre, hQ⟩ := hT
  refine ⟨Nat.le_of_ble_eq_true rfl, ?_⟩
  show Z kX7_alive Q 0 [(0, AR 1), (1, AI h)] [] hi
  refine z_iload_n (pc := 0) dX7_alive_0 rfl 1 rfl ?_
  refine z_callS (pc := 1) (kc := kX7_isHour) (n := 1) (As := [AI h]) (stk := []) ct_X7_isHour (gdS rfl rfl (iw6 _ (List.mem_of_getElem? (i := 7) rfl)) (iw6 _ (List.mem_of_getElem? (i := 8) rfl)) (iw1 _ (List.mem_of_getElem? (i := 2) rfl)) (iw6 _ (List.mem_of_getElem? (i := 9) rfl))) rfl ⟨rfl, rfl⟩ (by decide +kernel) ⟨by decide, by decide⟩ dX7_alive_1 rfl rfl (Nat.le_of_ble_eq_true rfl) ?_
  refine ⟨_, rfl, by omega, fun v1 ev1 => ?_⟩
  refine z_if_eq (pc := 4) (tgt := 18) dX7_alive_4 (by decide) ⟨by omega, by omega⟩ (fun c2 => ?_) (fun c2 => ?_)
  · refine z_iconst (pc := 18) (v := (-1)) dX7_alive_18 rfl ?_
    refine z_iret (pc := 19) rfl dX7_alive_19 ?_
    exact hQ (-1) (by first | exact Or.inl ⟨rfl, by omega⟩ | exact Or.inr ⟨by omega, by assumption⟩)
  · refine z_aload_n (pc := 7) (x := 1) dX7_alive_7 rfl 0 rfl ?_
    refine z_getR (pc := 8) (pl := 0) (f := 0) (ci := 6) (C := RX7) (T := TX7) (N := 13) hu_X7 (by decide) rfl rfl (by decide) rfl (List.mem_cons_of_mem _ (iw1 _ (List.mem_of_getElem? (i := 16) rfl))) rfl dX7_alive_8 ?_
    refine z_iload_n (pc := 11) dX7_alive_11 rfl 1 rfl ?_
    refine z_callV (pc := 12) (kc := kX1_countAt) (n := 1) (pl := 1) (ci := 1) (C := RX1) (As := [AI h]) (stk := []) ct_X1_countAt (gdV rfl rfl (iw44 _ (List.mem_of_getElem? (i := 22) rfl)) (iw34 _ (List.mem_of_getElem? (i := 15) rfl)) (iw34 _ (List.mem_of_getElem? (i := 16) rfl)) (iw1 _ (List.mem_of_getElem? (i := 15) rfl)) (iw34 _ (List.mem_of_getElem? (i := 17) rfl))) rfl ⟨rfl, rfl⟩ (by decide +kernel) ⟨by decide, by decide⟩ (by decide) rfl rfl dX7_alive_12 rfl rfl (Nat.le_of_ble_eq_true rfl) ?_
    refine ⟨_, rfl, by have q := hpre.1.1; exact ⟨by omega, by omega, by omega⟩, fun v3 ev3 => ?_⟩
    refine z_goto (pc := 15) (tgt := 19) dX7_alive_15 (by decide) ?_
    refine z_iret (pc := 19) rfl dX7_alive_19 ?_
    exact hQ v3 (by first | exact Or.inl ⟨rfl, by omega⟩ | exact Or.inr ⟨by omega, by assumption⟩)

abbrev kX7_next : Kd := (cX7_next, .code yX7_next cX7_next 4 (some .int) :: wsL_law0, rmL 4, RX7, (some .int), 4)
theorem ct_X7_next : Ct kX7_next yX7_next (fun a hi Q => ∃ x : Int, ∃ h : Int, a = [AR 1, AI x, AI h] ∧ (RI (hi 2) (hi 2 1) ∧ inR x ∧ inR h) ∧ ∀ v : Int, ((v = -1 ∧ ¬ ((0 ≤ x ∧ x ≤ 999) ∧ (0 ≤ h ∧ h < 64))) ∨ (((0 ≤ x ∧ x ≤ 999) ∧ (0 ≤ h ∧ h < 64)) ∧ ∃ k : Int, Fst (fun z => x ≤ nO (hi 2) z ∧ al (hi 2) z h) (hi 2 1) k ∧ ((k < 0 ∧ v = -2) ∨ (0 ≤ k ∧ v = nO (hi 2) k)))) → Q (AI v) hi) := by
  refine Ct.of (ws' := _) (by decide +kernel) rfl rfl ?_
  intro a hi Q hT
  obtain ⟨x, h, rfl, hpre, hQ⟩ := hT
  refine ⟨Nat.le_of_ble_eq_true rfl, ?_⟩
  show Z kX7_next Q 0 [(0, AR 1), (1, AI x), (2, AI h)] [] hi
  refine z_iload_n (pc := 0) dX7_next_0 rfl 1 rfl ?_
  refine z_callS (pc := 1) (kc := kX7_isNumber) (n := 1) (As := [AI x]) (stk := []) ct_X7_isNumber (gdS rfl rfl (iw6 _ (List.mem_of_getElem? (i := 4) rfl)) (iw6 _ (List.mem_of_getElem? (i := 5) rfl)) (iw1 _ (List.mem_of_getElem? (i := 2) rfl)) (iw6 _ (List.mem_of_getElem? (i := 6) rfl))) rfl ⟨rfl, rfl⟩ (by decide +kernel) ⟨by decide, by decide⟩ dX7_next_1 rfl rfl (Nat.le_of_ble_eq_true rfl) ?_
  refine ⟨_, rfl, by omega, fun v1 ev1 => ?_⟩
  refine z_if_eq (pc := 4) (tgt := 14) dX7_next_4 (by decide) ⟨by omega, by omega⟩ (fun c2 => ?_) (fun c2 => ?_)
  · refine z_iconst (pc := 14) (v := (-1)) dX7_next_14 rfl ?_
    refine z_iret (pc := 15) rfl dX7_next_15 ?_
    exact hQ (-1) (by first | exact Or.inl ⟨rfl, by omega⟩ | exact Or.inr ⟨by omega, _, wf, by omega⟩)
  · refine z_iload_n (pc := 7) dX7_next_7 rfl 2 rfl ?_
    refine z_callS (pc := 8) (kc := kX7_isHour) (n := 1) (As := [AI h]) (stk := []) ct_X7_isHour (gdS rfl rfl (iw6 _ (List.mem_of_getElem? (i := 7) rfl)) (iw6 _ (List.mem_of_getElem? (i := 8) rfl)) (iw1 _ (List.mem_of_getElem? (i := 2) rfl)) (iw6 _ (List.mem_of_getElem? (i := 9) rfl))) rfl ⟨rfl, rfl⟩ (by decide +kernel) ⟨by decide, by decide⟩ dX7_next_8 rfl rfl (Nat.le_of_ble_eq_true rfl) ?_
    refine ⟨_, rfl, by omega, fun v3 ev3 => ?_⟩
    refine z_if_ne (pc := 11) (tgt := 16) dX7_next_11 (by decide) ⟨by omega, by omega⟩ (fun c4 => ?_) (fun c4 => ?_)
    · refine z_aload_n (pc := 16) (x := 1) dX7_next_16 rfl 0 rfl ?_
      refine z_getR (pc := 17) (pl := 0) (f := 0) (ci := 6) (C := RX7) (T := TX7) (N := 13) hu_X7 (by decide) rfl rfl (by decide) rfl (List.mem_cons_of_mem _ (iw1 _ (List.mem_of_getElem? (i := 16) rfl))) rfl dX7_next_17 ?_
      refine z_iload_n (pc := 20) dX7_next_20 rfl 2 rfl ?_
      refine z_iload_n (pc := 21) dX7_next_21 rfl 1 rfl ?_
      refine z_callV (pc := 22) (kc := kX1_firstAt) (n := 2) (pl := 1) (ci := 1) (C := RX1) (As := [AI h, AI x]) (stk := []) ct_X1_firstAt (gdV rfl rfl (iw45 _ (List.mem_of_getElem? (i := 7) rfl)) (iw34 _ (List.mem_of_getElem? (i := 7) rfl)) (iw34 _ (List.mem_of_getElem? (i := 8) rfl)) (iw1 _ (List.mem_of_getElem? (i := 15) rfl)) (iw34 _ (List.mem_of_getElem? (i := 9) rfl))) rfl ⟨rfl, rfl⟩ (by decide +kernel) ⟨by decide, by decide⟩ (by decide) rfl rfl dX7_next_22 rfl rfl (Nat.le_of_ble_eq_true rfl) ?_
      refine ⟨_, _, rfl, by have q := hpre.1.1; exact ⟨by omega, ⟨by omega, by omega⟩, ⟨by omega, by omega⟩⟩, fun v5 ev5 => ?_⟩
      have wf := ev5
      have gf := Fst.rng wf hpre.1.1
      refine z_istore_n (pc := 25) (lv' := [(3, AI v5), (0, AR 1), (1, AI x), (2, AI h)]) dX7_next_25 rfl (by decide) rfl ?_
      refine z_iload_n (pc := 26) dX7_next_26 rfl 0 rfl ?_
      refine z_if_ge (pc := 27) (tgt := 35) dX7_next_27 (by decide) ⟨by omega, by omega⟩ (fun c6 => ?_) (fun c6 => ?_)
      · refine z_aload_n (pc := 35) (x := 1) dX7_next_35 rfl 1 rfl ?_
        refine z_getR (pc := 36) (pl := 0) (f := 0) (ci := 6) (C := RX7) (T := TX7) (N := 13) hu_X7 (by decide) rfl rfl (by decide) rfl (List.mem_cons_of_mem _ (iw1 _ (List.mem_of_getElem? (i := 16) rfl))) rfl dX7_next_36 ?_
        refine z_iload_n (pc := 39) dX7_next_39 rfl 0 rfl ?_
        refine z_callV (pc := 40) (kc := kX1_numberOf) (n := 1) (pl := 1) (ci := 1) (C := RX1) (As := [AI v5]) (stk := []) ct_X1_numberOf (gdV rfl rfl (iw12 _ (List.mem_of_getElem? (i := 7) rfl)) (iw7 _ (List.mem_of_getElem? (i := 6) rfl)) (iw7 _ (List.mem_of_getElem? (i := 7) rfl)) (iw1 _ (List.mem_of_getElem? (i := 15) rfl)) (iw7 _ (List.mem_of_getElem? (i := 8) rfl))) rfl ⟨rfl, rfl⟩ (by decide +kernel) ⟨by decide, by decide⟩ (by decide) rfl rfl dX7_next_40 rfl rfl (Nat.le_of_ble_eq_true rfl) ?_
        refine ⟨_, rfl, by omega, fun v7 ev7 => ?_⟩
        refine z_iret (pc := 43) rfl dX7_next_43 ?_
        exact hQ v7 (by first | exact Or.inl ⟨rfl, by omega⟩ | exact Or.inr ⟨by omega, _, wf, by omega⟩)
      · refine z_bipush (pc := 30) (v := (-2)) dX7_next_30 (by decide +kernel) ?_
        refine z_goto (pc := 32) (tgt := 43) dX7_next_32 (by decide) ?_
        refine z_iret (pc := 43) rfl dX7_next_43 ?_
        exact hQ (-2) (by first | exact Or.inl ⟨rfl, by omega⟩ | exact Or.inr ⟨by omega, _, wf, by omega⟩)
    · refine z_iconst (pc := 14) (v := (-1)) dX7_next_14 rfl ?_
      refine z_iret (pc := 15) rfl dX7_next_15 ?_
      exact hQ (-1) (by first | exact Or.inl ⟨rfl, by omega⟩ | exact Or.inr ⟨by omega, _, wf, by omega⟩)

abbrev kX7_before : Kd := (cX7_before, .code yX7_before cX7_before 4 (some .int) :: wsL_law0, rmL 4, RX7, (some .int), 4)
theorem ct_X7_before : Ct kX7_before yX7_before (fun a hi Q => ∃ x : Int, ∃ h : Int, a = [AR 1, AI x, AI h] ∧ (RI (hi 2) (hi 2 1) ∧ inR x ∧ inR h) ∧ ∀ v : Int, ((v = -1 ∧ ¬ ((0 ≤ x ∧ x ≤ 999) ∧ (0 ≤ h ∧ h < 64))) ∨ (((0 ≤ x ∧ x ≤ 999) ∧ (0 ≤ h ∧ h < 64)) ∧ ∃ k : Int, Lst (fun z => nO (hi 2) z ≤ x ∧ al (hi 2) z h) (hi 2 1) k ∧ ((k < 0 ∧ v = -2) ∨ (0 ≤ k ∧ v = nO (hi 2) k)))) → Q (AI v) hi) := by
  refine Ct.of (ws' := _) (by decide +kernel) rfl rfl ?_
  intro a hi Q hT
  obtain ⟨x, h, rfl, hpre, hQ⟩ := hT
  refine ⟨Nat.le_of_ble_eq_true rfl, ?_⟩
  show Z kX7_before Q 0 [(0, AR 1), (1, AI x), (2, AI h)] [] hi
  refine z_iload_n (pc := 0) dX7_before_0 rfl 1 rfl ?_
  refine z_callS (pc := 1) (kc := kX7_isNumber) (n := 1) (As := [AI x]) (stk := []) ct_X7_isNumber (gdS rfl rfl (iw6 _ (List.mem_of_getElem? (i := 4) rfl)) (iw6 _ (List.mem_of_getElem? (i := 5) rfl)) (iw1 _ (List.mem_of_getElem? (i := 2) rfl)) (iw6 _ (List.mem_of_getElem? (i := 6) rfl))) rfl ⟨rfl, rfl⟩ (by decide +kernel) ⟨by decide, by decide⟩ dX7_before_1 rfl rfl (Nat.le_of_ble_eq_true rfl) ?_
  refine ⟨_, rfl, by omega, fun v1 ev1 => ?_⟩
  refine z_if_eq (pc := 4) (tgt := 14) dX7_before_4 (by decide) ⟨by omega, by omega⟩ (fun c2 => ?_) (fun c2 => ?_)
  · refine z_iconst (pc := 14) (v := (-1)) dX7_before_14 rfl ?_
    refine z_iret (pc := 15) rfl dX7_before_15 ?_
    exact hQ (-1) (by first | exact Or.inl ⟨rfl, by omega⟩ | exact Or.inr ⟨by omega, _, wf, by omega⟩)
  · refine z_iload_n (pc := 7) dX7_before_7 rfl 2 rfl ?_
    refine z_callS (pc := 8) (kc := kX7_isHour) (n := 1) (As := [AI h]) (stk := []) ct_X7_isHour (gdS rfl rfl (iw6 _ (List.mem_of_getElem? (i := 7) rfl)) (iw6 _ (List.mem_of_getElem? (i := 8) rfl)) (iw1 _ (List.mem_of_getElem? (i := 2) rfl)) (iw6 _ (List.mem_of_getElem? (i := 9) rfl))) rfl ⟨rfl, rfl⟩ (by decide +kernel) ⟨by decide, by decide⟩ dX7_before_8 rfl rfl (Nat.le_of_ble_eq_true rfl) ?_
    refine ⟨_, rfl, by omega, fun v3 ev3 => ?_⟩
    refine z_if_ne (pc := 11) (tgt := 16) dX7_before_11 (by decide) ⟨by omega, by omega⟩ (fun c4 => ?_) (fun c4 => ?_)
    · refine z_aload_n (pc := 16) (x := 1) dX7_before_16 rfl 0 rfl ?_
      refine z_getR (pc := 17) (pl := 0) (f := 0) (ci := 6) (C := RX7) (T := TX7) (N := 13) hu_X7 (by decide) rfl rfl (by decide) rfl (List.mem_cons_of_mem _ (iw1 _ (List.mem_of_getElem? (i := 16) rfl))) rfl dX7_before_17 ?_
      refine z_iload_n (pc := 20) dX7_before_20 rfl 2 rfl ?_
      refine z_iload_n (pc := 21) dX7_before_21 rfl 1 rfl ?_
      refine z_callV (pc := 22) (kc := kX1_lastAt) (n := 2) (pl := 1) (ci := 1) (C := RX1) (As := [AI h, AI x]) (stk := []) ct_X1_lastAt (gdV rfl rfl (iw45 _ (List.mem_of_getElem? (i := 16) rfl)) (iw34 _ (List.mem_of_getElem? (i := 11) rfl)) (iw34 _ (List.mem_of_getElem? (i := 12) rfl)) (iw1 _ (List.mem_of_getElem? (i := 15) rfl)) (iw34 _ (List.mem_of_getElem? (i := 13) rfl))) rfl ⟨rfl, rfl⟩ (by decide +kernel) ⟨by decide, by decide⟩ (by decide) rfl rfl dX7_before_22 rfl rfl (Nat.le_of_ble_eq_true rfl) ?_
      refine ⟨_, _, rfl, by have q := hpre.1.1; exact ⟨by omega, ⟨by omega, by omega⟩, ⟨by omega, by omega⟩⟩, fun v5 ev5 => ?_⟩
      have wf := ev5
      have gf := Lst.rng wf hpre.1.1
      refine z_istore_n (pc := 25) (lv' := [(3, AI v5), (0, AR 1), (1, AI x), (2, AI h)]) dX7_before_25 rfl (by decide) rfl ?_
      refine z_iload_n (pc := 26) dX7_before_26 rfl 0 rfl ?_
      refine z_if_ge (pc := 27) (tgt := 35) dX7_before_27 (by decide) ⟨by omega, by omega⟩ (fun c6 => ?_) (fun c6 => ?_)
      · refine z_aload_n (pc := 35) (x := 1) dX7_before_35 rfl 1 rfl ?_
        refine z_getR (pc := 36) (pl := 0) (f := 0) (ci := 6) (C := RX7) (T := TX7) (N := 13) hu_X7 (by decide) rfl rfl (by decide) rfl (List.mem_cons_of_mem _ (iw1 _ (List.mem_of_getElem? (i := 16) rfl))) rfl dX7_before_36 ?_
        refine z_iload_n (pc := 39) dX7_before_39 rfl 0 rfl ?_
        refine z_callV (pc := 40) (kc := kX1_numberOf) (n := 1) (pl := 1) (ci := 1) (C := RX1) (As := [AI v5]) (stk := []) ct_X1_numberOf (gdV rfl rfl (iw12 _ (List.mem_of_getElem? (i := 7) rfl)) (iw7 _ (List.mem_of_getElem? (i := 6) rfl)) (iw7 _ (List.mem_of_getElem? (i := 7) rfl)) (iw1 _ (List.mem_of_getElem? (i := 15) rfl)) (iw7 _ (List.mem_of_getElem? (i := 8) rfl))) rfl ⟨rfl, rfl⟩ (by decide +kernel) ⟨by decide, by decide⟩ (by decide) rfl rfl dX7_before_40 rfl rfl (Nat.le_of_ble_eq_true rfl) ?_
        refine ⟨_, rfl, by omega, fun v7 ev7 => ?_⟩
        refine z_iret (pc := 43) rfl dX7_before_43 ?_
        exact hQ v7 (by first | exact Or.inl ⟨rfl, by omega⟩ | exact Or.inr ⟨by omega, _, wf, by omega⟩)
      · refine z_bipush (pc := 30) (v := (-2)) dX7_before_30 (by decide +kernel) ?_
        refine z_goto (pc := 32) (tgt := 43) dX7_before_32 (by decide) ?_
        refine z_iret (pc := 43) rfl dX7_before_43 ?_
        exact hQ (-2) (by first | exact Or.inl ⟨rfl, by omega⟩ | exact Or.inr ⟨by omega, _, wf, by omega⟩)
    · refine z_iconst (pc := 14) (v := (-1)) dX7_before_14 rfl ?_
      refine z_iret (pc := 15) rfl dX7_before_15 ?_
      exact hQ (-1) (by first | exact Or.inl ⟨rfl, by omega⟩ | exact Or.inr ⟨by omega, _, wf, by omega⟩)

abbrev kX7_rank : Kd := (cX7_rank, .code yX7_rank cX7_rank 5 (some .int) :: wsL_law0, rmL 3, RX7, (some .int), 5)
theorem ct_X7_rank : Ct kX7_rank yX7_rank (fun a hi Q => ∃ x : Int, ∃ h : Int, a = [AR 1, AI x, AI h] ∧ (RI (hi 2) (hi 2 1) ∧ inR x ∧ inR h) ∧ ∀ v : Int, ((v = -1 ∧ ¬ ((0 ≤ x ∧ x ≤ 999) ∧ (0 ≤ h ∧ h < 64))) ∨ (((0 ≤ x ∧ x ≤ 999) ∧ (0 ≤ h ∧ h < 64)) ∧ v = sm (fun z => if al (hi 2) z h ∧ nO (hi 2) z < x then 1 else 0) (hi 2 1).toNat)) → Q (AI v) hi) := by
  refine Ct.of (ws' := _) (by decide +kernel) rfl rfl ?_
  intro a hi Q hT
  obtain ⟨x, h, rfl, hpre, hQ⟩ := hT
  refine ⟨Nat.le_of_ble_eq_true rfl, ?_⟩
  show Z kX7_rank Q 0 [(0, AR 1), (1, AI x), (2, AI h)] [] hi
  refine z_iload_n (pc := 0) dX7_rank_0 rfl 1 rfl ?_
  refine z_callS (pc := 1) (kc := kX7_isNumber) (n := 1) (As := [AI x]) (stk := []) ct_X7_isNumber (gdS rfl rfl (iw6 _ (List.mem_of_getElem? (i := 4) rfl)) (iw6 _ (List.mem_of_getElem? (i := 5) rfl)) (iw1 _ (List.mem_of_getElem? (i := 2) rfl)) (iw6 _ (List.mem_of_getElem? (i := 6) rfl))) rfl ⟨rfl, rfl⟩ (by decide +kernel) ⟨by decide, by decide⟩ dX7_rank_1 rfl rfl (Nat.le_of_ble_eq_true rfl) ?_
  refine ⟨_, rfl, by omega, fun v1 ev1 => ?_⟩
  refine z_if_eq (pc := 4) (tgt := 14) dX7_rank_4 (by decide) ⟨by omega, by omega⟩ (fun c2 => ?_) (fun c2 => ?_)
  · refine z_iconst (pc := 14) (v := (-1)) dX7_rank_14 rfl ?_
    refine z_iret (pc := 15) rfl dX7_rank_15 ?_
    exact hQ (-1) (by first | exact Or.inl ⟨rfl, by omega⟩ | exact Or.inr ⟨by omega, by rw [i1, show k = hi 2 1 by omega]⟩)
  · refine z_iload_n (pc := 7) dX7_rank_7 rfl 2 rfl ?_
    refine z_callS (pc := 8) (kc := kX7_isHour) (n := 1) (As := [AI h]) (stk := []) ct_X7_isHour (gdS rfl rfl (iw6 _ (List.mem_of_getElem? (i := 7) rfl)) (iw6 _ (List.mem_of_getElem? (i := 8) rfl)) (iw1 _ (List.mem_of_getElem? (i := 2) rfl)) (iw6 _ (List.mem_of_getElem? (i := 9) rfl))) rfl ⟨rfl, rfl⟩ (by decide +kernel) ⟨by decide, by decide⟩ dX7_rank_8 rfl rfl (Nat.le_of_ble_eq_true rfl) ?_
    refine ⟨_, rfl, by omega, fun v3 ev3 => ?_⟩
    refine z_if_ne (pc := 11) (tgt := 16) dX7_rank_11 (by decide) ⟨by omega, by omega⟩ (fun c4 => ?_) (fun c4 => ?_)
    · refine z_iconst (pc := 16) (v := 0) dX7_rank_16 rfl ?_
      refine z_istore_n (pc := 17) (lv' := [(3, AI 0), (0, AR 1), (1, AI x), (2, AI h)]) dX7_rank_17 rfl (by decide) rfl ?_
      refine z_iconst (pc := 18) (v := 0) dX7_rank_18 rfl ?_
      refine z_istore (pc := 19) (lv' := [(4, AI 0), (3, AI 0), (0, AR 1), (1, AI x), (2, AI h)]) dX7_rank_19 (by decide) rfl ?_
      have h0 := hpre.1.1
      have J21 : ∀ (N : Nat) (k acc : Int), (0 ≤ k ∧ k ≤ hi 2 1) → (acc = sm (fun z => if al (hi 2) z h ∧ nO (hi 2) z < x then 1 else 0) k.toNat) → ((hi 2 1 - k).toNat) < N → Z kX7_rank Q 21 [(4, AI k), (3, AI acc), (0, AR 1), (1, AI x), (2, AI h)] [] hi := by
        intro N
        induction N with
        | zero => intro k acc _ _ _; exact absurd (by assumption) (Nat.not_lt_zero _)
        | succ N ih21 =>
          intro k acc i0 i1 hm21
          refine z_iload (pc := 21) dX7_rank_21 0 rfl ?_
          refine z_aload_n (pc := 23) (x := 1) dX7_rank_23 rfl 2 rfl ?_
          refine z_getR (pc := 24) (pl := 0) (f := 0) (ci := 6) (C := RX7) (T := TX7) (N := 13) hu_X7 (by decide) rfl rfl (by decide) rfl (List.mem_cons_of_mem _ (iw1 _ (List.mem_of_getElem? (i := 16) rfl))) rfl dX7_rank_24 ?_
          refine z_callV (pc := 27) (kc := kX1_size) (n := 0) (pl := 1) (ci := 1) (C := RX1) (As := []) (stk := [AI k]) ct_X1_size (gdV rfl rfl (iw7 _ (List.mem_of_getElem? (i := 21) rfl)) (iw7 _ (List.mem_of_getElem? (i := 2) rfl)) (iw7 _ (List.mem_of_getElem? (i := 3) rfl)) (iw1 _ (List.mem_of_getElem? (i := 15) rfl)) (iw7 _ (List.mem_of_getElem? (i := 4) rfl))) rfl ⟨rfl, rfl⟩ (by decide +kernel) ⟨by decide, by decide⟩ (by decide) rfl rfl dX7_rank_27 rfl rfl (Nat.le_of_ble_eq_true rfl) ?_
          refine ⟨rfl, trivial, fun v5 ev5 => ?_⟩
          refine z_icmp_ge (pc := 30) (tgt := 68) dX7_rank_30 (by decide) ⟨by omega, by omega⟩ ⟨by omega, by omega⟩ (fun c6 => ?_) (fun c6 => ?_)
          · refine z_iload_n (pc := 68) dX7_rank_68 rfl 1 rfl ?_
            refine z_iret (pc := 69) rfl dX7_rank_69 ?_
            exact hQ acc (by first | exact Or.inl ⟨rfl, by omega⟩ | exact Or.inr ⟨by omega, by rw [i1, show k = hi 2 1 by omega]⟩)
          · refine z_aload_n (pc := 33) (x := 1) dX7_rank_33 rfl 2 rfl ?_
            refine z_getR (pc := 34) (pl := 0) (f := 0) (ci := 6) (C := RX7) (T := TX7) (N := 13) hu_X7 (by decide) rfl rfl (by decide) rfl (List.mem_cons_of_mem _ (iw1 _ (List.mem_of_getElem? (i := 16) rfl))) rfl dX7_rank_34 ?_
            refine z_iload (pc := 37) dX7_rank_37 0 rfl ?_
            refine z_iload_n (pc := 39) dX7_rank_39 rfl 4 rfl ?_
            refine z_callV (pc := 40) (kc := kX1_isAlive) (n := 2) (pl := 1) (ci := 1) (C := RX1) (As := [AI k, AI h]) (stk := []) ct_X1_isAlive (gdV rfl rfl (iw46 _ (List.mem_of_getElem? (i := 1) rfl)) (iw11 _ (List.mem_of_getElem? (i := 23) rfl)) (iw12 _ (List.mem_of_getElem? (i := 0) rfl)) (iw1 _ (List.mem_of_getElem? (i := 15) rfl)) (iw12 _ (List.mem_of_getElem? (i := 1) rfl))) rfl ⟨rfl, rfl⟩ (by decide +kernel) ⟨by decide, by decide⟩ (by decide) rfl rfl dX7_rank_40 rfl rfl (Nat.le_of_ble_eq_true rfl) ?_
            refine ⟨_, _, rfl, by omega, fun v7 ev7 => ?_⟩
            refine z_if_eq (pc := 43) (tgt := 62) dX7_rank_43 (by decide) ⟨by omega, by omega⟩ (fun c8 => ?_) (fun c8 => ?_)
            · refine z_iinc (pc := 62) (j := 0) (w := fun q => (4, AI q) :: [(3, AI acc), (0, AR 1), (1, AI x), (2, AI h)]) dX7_rank_62 rfl (by decide) (fun _ => rfl) (fun v9 ev9 => ?_)
              refine z_goto (pc := 65) (tgt := 21) dX7_rank_65 (by decide) ?_
              exact ih21 v9 acc (by omega) (sm_step (by omega) (by omega) i1 (by first | omega | (split <;> omega))) (by omega)
            · refine z_aload_n (pc := 46) (x := 1) dX7_rank_46 rfl 2 rfl ?_
              refine z_getR (pc := 47) (pl := 0) (f := 0) (ci := 6) (C := RX7) (T := TX7) (N := 13) hu_X7 (by decide) rfl rfl (by decide) rfl (List.mem_cons_of_mem _ (iw1 _ (List.mem_of_getElem? (i := 16) rfl))) rfl dX7_rank_47 ?_
              refine z_iload (pc := 50) dX7_rank_50 0 rfl ?_
              refine z_callV (pc := 52) (kc := kX1_numberOf) (n := 1) (pl := 1) (ci := 1) (C := RX1) (As := [AI k]) (stk := []) ct_X1_numberOf (gdV rfl rfl (iw12 _ (List.mem_of_getElem? (i := 7) rfl)) (iw7 _ (List.mem_of_getElem? (i := 6) rfl)) (iw7 _ (List.mem_of_getElem? (i := 7) rfl)) (iw1 _ (List.mem_of_getElem? (i := 15) rfl)) (iw7 _ (List.mem_of_getElem? (i := 8) rfl))) rfl ⟨rfl, rfl⟩ (by decide +kernel) ⟨by decide, by decide⟩ (by decide) rfl rfl dX7_rank_52 rfl rfl (Nat.le_of_ble_eq_true rfl) ?_
              refine ⟨_, rfl, by omega, fun v10 ev10 => ?_⟩
              refine z_iload_n (pc := 55) dX7_rank_55 rfl 3 rfl ?_
              refine z_icmp_ge (pc := 56) (tgt := 62) dX7_rank_56 (by decide) ⟨by omega, by omega⟩ ⟨by omega, by omega⟩ (fun c11 => ?_) (fun c11 => ?_)
              · refine z_iinc (pc := 62) (j := 0) (w := fun q => (4, AI q) :: [(3, AI acc), (0, AR 1), (1, AI x), (2, AI h)]) dX7_rank_62 rfl (by decide) (fun _ => rfl) (fun v12 ev12 => ?_)
                refine z_goto (pc := 65) (tgt := 21) dX7_rank_65 (by decide) ?_
                exact ih21 v12 acc (by omega) (sm_step (by omega) (by omega) i1 (by first | omega | (split <;> omega))) (by omega)
              · refine z_iinc (pc := 59) (j := 1) (w := fun q => (3, AI q) :: [(4, AI k), (0, AR 1), (1, AI x), (2, AI h)]) dX7_rank_59 rfl (by decide) (fun _ => rfl) (fun v13 ev13 => ?_)
                refine z_iinc (pc := 62) (j := 1) (w := fun q => (4, AI q) :: [(3, AI v13), (0, AR 1), (1, AI x), (2, AI h)]) dX7_rank_62 rfl (by decide) (fun _ => rfl) (fun v14 ev14 => ?_)
                refine z_goto (pc := 65) (tgt := 21) dX7_rank_65 (by decide) ?_
                exact ih21 v14 v13 (by omega) (sm_step (by omega) (by omega) i1 (by first | omega | (split <;> omega))) (by omega)
      exact J21 _ 0 0 (by omega) (sm_0 rfl rfl) (Nat.lt_succ_self _)
    · refine z_iconst (pc := 14) (v := (-1)) dX7_rank_14 rfl ?_
      refine z_iret (pc := 15) rfl dX7_rank_15 ?_
      exact hQ (-1) (by first | exact Or.inl ⟨rfl, by omega⟩ | exact Or.inr ⟨by omega, by rw [i1, show k = hi 2 1 by omega]⟩)

abbrev kX7_changes : Kd := (cX7_changes, .code yX7_changes cX7_changes 6 (some .int) :: wsL_law0, rmL 2, RX7, (some .int), 6)
theorem ct_X7_changes : Ct kX7_changes yX7_changes (fun a hi Q => ∃ h : Int, ∃ y : Int, a = [AR 1, AI h, AI y] ∧ (RI (hi 2) (hi 2 1) ∧ inR h ∧ inR y) ∧ ∀ v : Int, ((v = -1 ∧ ¬ ((0 ≤ h ∧ h ≤ 64) ∧ 0 ≤ y ∧ y ≤ 1)) ∨ (((0 ≤ h ∧ h ≤ 64) ∧ 0 ≤ y ∧ y ≤ 1) ∧ v = sm (fun z => if (if y = 0 then bO (hi 2) z else dO (hi 2) z) = h then 1 else 0) (hi 2 1).toNat)) → Q (AI v) hi) := by
  refine Ct.of (ws' := _) (by decide +kernel) rfl rfl ?_
  intro a hi Q hT
  obtain ⟨h, y, rfl, hpre, hQ⟩ := hT
  refine ⟨Nat.le_of_ble_eq_true rfl, ?_⟩
  show Z kX7_changes Q 0 [(0, AR 1), (1, AI h), (2, AI y)] [] hi
  refine z_iload_n (pc := 0) dX7_changes_0 rfl 1 rfl ?_
  refine z_callS (pc := 1) (kc := kX7_isHour) (n := 1) (As := [AI h]) (stk := []) ct_X7_isHour (gdS rfl rfl (iw6 _ (List.mem_of_getElem? (i := 7) rfl)) (iw6 _ (List.mem_of_getElem? (i := 8) rfl)) (iw1 _ (List.mem_of_getElem? (i := 2) rfl)) (iw6 _ (List.mem_of_getElem? (i := 9) rfl))) rfl ⟨rfl, rfl⟩ (by decide +kernel) ⟨by decide, by decide⟩ dX7_changes_1 rfl rfl (Nat.le_of_ble_eq_true rfl) ?_
  refine ⟨_, rfl, by omega, fun v1 ev1 => ?_⟩
  refine z_if_ne (pc := 4) (tgt := 13) dX7_changes_4 (by decide) ⟨by omega, by omega⟩ (fun c2 => ?_) (fun c2 => ?_)
  · refine z_iload_n (pc := 13) dX7_changes_13 rfl 2 rfl ?_
    refine z_if_lt (pc := 14) (tgt := 22) dX7_changes_14 (by decide) ⟨by omega, by omega⟩ (fun c3 => ?_) (fun c3 => ?_)
    · refine z_iconst (pc := 22) (v := (-1)) dX7_changes_22 rfl ?_
      refine z_iret (pc := 23) rfl dX7_changes_23 ?_
      exact hQ (-1) (by first | exact Or.inl ⟨rfl, by omega⟩ | exact Or.inr ⟨by omega, by rw [i1, show k = hi 2 1 by omega]⟩)
    · refine z_iload_n (pc := 17) dX7_changes_17 rfl 2 rfl ?_
      refine z_iconst (pc := 18) (v := 1) dX7_changes_18 rfl ?_
      refine z_icmp_le (pc := 19) (tgt := 24) dX7_changes_19 (by decide) ⟨by omega, by omega⟩ ⟨by decide, by decide⟩ (fun c4 => ?_) (fun c4 => ?_)
      · refine z_iconst (pc := 24) (v := 0) dX7_changes_24 rfl ?_
        refine z_istore_n (pc := 25) (lv' := [(3, AI 0), (0, AR 1), (1, AI h), (2, AI y)]) dX7_changes_25 rfl (by decide) rfl ?_
        refine z_iconst (pc := 26) (v := 0) dX7_changes_26 rfl ?_
        refine z_istore (pc := 27) (lv' := [(4, AI 0), (3, AI 0), (0, AR 1), (1, AI h), (2, AI y)]) dX7_changes_27 (by decide) rfl ?_
        have h0 := hpre.1.1
        have J29 : ∀ (N : Nat) (k acc : Int), (0 ≤ k ∧ k ≤ hi 2 1) → (acc = sm (fun z => if (if y = 0 then bO (hi 2) z else dO (hi 2) z) = h then 1 else 0) k.toNat) → ((hi 2 1 - k).toNat) < N → Z kX7_changes Q 29 [(4, AI k), (3, AI acc), (0, AR 1), (1, AI h), (2, AI y)] [] hi := by
          intro N
          induction N with
          | zero => intro k acc _ _ _; exact absurd (by assumption) (Nat.not_lt_zero _)
          | succ N ih29 =>
            intro k acc i0 i1 hm29
            refine z_iload (pc := 29) dX7_changes_29 0 rfl ?_
            refine z_aload_n (pc := 31) (x := 1) dX7_changes_31 rfl 2 rfl ?_
            refine z_getR (pc := 32) (pl := 0) (f := 0) (ci := 6) (C := RX7) (T := TX7) (N := 13) hu_X7 (by decide) rfl rfl (by decide) rfl (List.mem_cons_of_mem _ (iw1 _ (List.mem_of_getElem? (i := 16) rfl))) rfl dX7_changes_32 ?_
            refine z_callV (pc := 35) (kc := kX1_size) (n := 0) (pl := 1) (ci := 1) (C := RX1) (As := []) (stk := [AI k]) ct_X1_size (gdV rfl rfl (iw7 _ (List.mem_of_getElem? (i := 21) rfl)) (iw7 _ (List.mem_of_getElem? (i := 2) rfl)) (iw7 _ (List.mem_of_getElem? (i := 3) rfl)) (iw1 _ (List.mem_of_getElem? (i := 15) rfl)) (iw7 _ (List.mem_of_getElem? (i := 4) rfl))) rfl ⟨rfl, rfl⟩ (by decide +kernel) ⟨by decide, by decide⟩ (by decide) rfl rfl dX7_changes_35 rfl rfl (Nat.le_of_ble_eq_true rfl) ?_
            refine ⟨rfl, trivial, fun v5 ev5 => ?_⟩
            refine z_icmp_ge (pc := 38) (tgt := 83) dX7_changes_38 (by decide) ⟨by omega, by omega⟩ ⟨by omega, by omega⟩ (fun c6 => ?_) (fun c6 => ?_)
            · refine z_iload_n (pc := 83) dX7_changes_83 rfl 1 rfl ?_
              refine z_iret (pc := 84) rfl dX7_changes_84 ?_
              exact hQ acc (by first | exact Or.inl ⟨rfl, by omega⟩ | exact Or.inr ⟨by omega, by rw [i1, show k = hi 2 1 by omega]⟩)
            · refine z_iload_n (pc := 41) dX7_changes_41 rfl 4 rfl ?_
              refine z_if_ne (pc := 42) (tgt := 57) dX7_changes_42 (by decide) ⟨by omega, by omega⟩ (fun c7 => ?_) (fun c7 => ?_)
              · refine z_aload_n (pc := 57) (x := 1) dX7_changes_57 rfl 2 rfl ?_
                refine z_getR (pc := 58) (pl := 0) (f := 0) (ci := 6) (C := RX7) (T := TX7) (N := 13) hu_X7 (by decide) rfl rfl (by decide) rfl (List.mem_cons_of_mem _ (iw1 _ (List.mem_of_getElem? (i := 16) rfl))) rfl dX7_changes_58 ?_
                refine z_iload (pc := 61) dX7_changes_61 0 rfl ?_
                refine z_callV (pc := 63) (kc := kX1_deathOf) (n := 1) (pl := 1) (ci := 1) (C := RX1) (As := [AI k]) (stk := []) ct_X1_deathOf (gdV rfl rfl (iw14 _ (List.mem_of_getElem? (i := 8) rfl)) (iw7 _ (List.mem_of_getElem? (i := 14) rfl)) (iw7 _ (List.mem_of_getElem? (i := 15) rfl)) (iw1 _ (List.mem_of_getElem? (i := 15) rfl)) (iw7 _ (List.mem_of_getElem? (i := 16) rfl))) rfl ⟨rfl, rfl⟩ (by decide +kernel) ⟨by decide, by decide⟩ (by decide) rfl rfl dX7_changes_63 rfl rfl (Nat.le_of_ble_eq_true rfl) ?_
                refine ⟨_, rfl, by omega, fun v8 ev8 => ?_⟩
                refine z_istore (pc := 66) (lv' := [(5, AI v8), (4, AI k), (3, AI acc), (0, AR 1), (1, AI h), (2, AI y)]) dX7_changes_66 (by decide) rfl ?_
                refine z_iload (pc := 68) dX7_changes_68 0 rfl ?_
                refine z_iload_n (pc := 70) dX7_changes_70 rfl 4 rfl ?_
                refine z_icmp_ne (pc := 71) (tgt := 77) dX7_changes_71 (by decide) ⟨by omega, by omega⟩ ⟨by omega, by omega⟩ (fun c9 => ?_) (fun c9 => ?_)
                · refine z_iinc (pc := 77) (j := 1) (w := fun q => (4, AI q) :: [(5, AI v8), (3, AI acc), (0, AR 1), (1, AI h), (2, AI y)]) dX7_changes_77 rfl (by decide) (fun _ => rfl) (fun v10 ev10 => ?_)
                  refine z_goto (pc := 80) (tgt := 29) dX7_changes_80 (by decide) ?_
                  refine z_sub (lv' := [(4, AI v10), (3, AI acc), (0, AR 1), (1, AI h), (2, AI y)]) [0, 2, 3, 4, 5] rfl ?_
                  exact ih29 v10 acc (by omega) (sm_step (by omega) (by omega) i1 (by (repeat split) <;> omega)) (by omega)
                · refine z_iinc (pc := 74) (j := 2) (w := fun q => (3, AI q) :: [(5, AI v8), (4, AI k), (0, AR 1), (1, AI h), (2, AI y)]) dX7_changes_74 rfl (by decide) (fun _ => rfl) (fun v11 ev11 => ?_)
                  refine z_iinc (pc := 77) (j := 2) (w := fun q => (4, AI q) :: [(3, AI v11), (5, AI v8), (0, AR 1), (1, AI h), (2, AI y)]) dX7_changes_77 rfl (by decide) (fun _ => rfl) (fun v12 ev12 => ?_)
                  refine z_goto (pc := 80) (tgt := 29) dX7_changes_80 (by decide) ?_
                  refine z_sub (lv' := [(4, AI v12), (3, AI v11), (0, AR 1), (1, AI h), (2, AI y)]) [0, 1, 3, 4, 5] rfl ?_
                  exact ih29 v12 v11 (by omega) (sm_step (by omega) (by omega) i1 (by (repeat split) <;> omega)) (by omega)
              · refine z_aload_n (pc := 45) (x := 1) dX7_changes_45 rfl 2 rfl ?_
                refine z_getR (pc := 46) (pl := 0) (f := 0) (ci := 6) (C := RX7) (T := TX7) (N := 13) hu_X7 (by decide) rfl rfl (by decide) rfl (List.mem_cons_of_mem _ (iw1 _ (List.mem_of_getElem? (i := 16) rfl))) rfl dX7_changes_46 ?_
                refine z_iload (pc := 49) dX7_changes_49 0 rfl ?_
                refine z_callV (pc := 51) (kc := kX1_birthOf) (n := 1) (pl := 1) (ci := 1) (C := RX1) (As := [AI k]) (stk := []) ct_X1_birthOf (gdV rfl rfl (iw12 _ (List.mem_of_getElem? (i := 2) rfl)) (iw7 _ (List.mem_of_getElem? (i := 10) rfl)) (iw7 _ (List.mem_of_getElem? (i := 11) rfl)) (iw1 _ (List.mem_of_getElem? (i := 15) rfl)) (iw7 _ (List.mem_of_getElem? (i := 12) rfl))) rfl ⟨rfl, rfl⟩ (by decide +kernel) ⟨by decide, by decide⟩ (by decide) rfl rfl dX7_changes_51 rfl rfl (Nat.le_of_ble_eq_true rfl) ?_
                refine ⟨_, rfl, by omega, fun v13 ev13 => ?_⟩
                refine z_goto (pc := 54) (tgt := 66) dX7_changes_54 (by decide) ?_
                refine z_istore (pc := 66) (lv' := [(5, AI v13), (4, AI k), (3, AI acc), (0, AR 1), (1, AI h), (2, AI y)]) dX7_changes_66 (by decide) rfl ?_
                refine z_iload (pc := 68) dX7_changes_68 0 rfl ?_
                refine z_iload_n (pc := 70) dX7_changes_70 rfl 4 rfl ?_
                refine z_icmp_ne (pc := 71) (tgt := 77) dX7_changes_71 (by decide) ⟨by omega, by omega⟩ ⟨by omega, by omega⟩ (fun c14 => ?_) (fun c14 => ?_)
                · refine z_iinc (pc := 77) (j := 1) (w := fun q => (4, AI q) :: [(5, AI v13), (3, AI acc), (0, AR 1), (1, AI h), (2, AI y)]) dX7_changes_77 rfl (by decide) (fun _ => rfl) (fun v15 ev15 => ?_)
                  refine z_goto (pc := 80) (tgt := 29) dX7_changes_80 (by decide) ?_
                  refine z_sub (lv' := [(4, AI v15), (3, AI acc), (0, AR 1), (1, AI h), (2, AI y)]) [0, 2, 3, 4, 5] rfl ?_
                  exact ih29 v15 acc (by omega) (sm_step (by omega) (by omega) i1 (by (repeat split) <;> omega)) (by omega)
                · refine z_iinc (pc := 74) (j := 2) (w := fun q => (3, AI q) :: [(5, AI v13), (4, AI k), (0, AR 1), (1, AI h), (2, AI y)]) dX7_changes_74 rfl (by decide) (fun _ => rfl) (fun v16 ev16 => ?_)
                  refine z_iinc (pc := 77) (j := 2) (w := fun q => (4, AI q) :: [(3, AI v16), (5, AI v13), (0, AR 1), (1, AI h), (2, AI y)]) dX7_changes_77 rfl (by decide) (fun _ => rfl) (fun v17 ev17 => ?_)
                  refine z_goto (pc := 80) (tgt := 29) dX7_changes_80 (by decide) ?_
                  refine z_sub (lv' := [(4, AI v17), (3, AI v16), (0, AR 1), (1, AI h), (2, AI y)]) [0, 1, 3, 4, 5] rfl ?_
                  exact ih29 v17 v16 (by omega) (sm_step (by omega) (by omega) i1 (by (repeat split) <;> omega)) (by omega)
        exact J29 _ 0 0 (by omega) (sm_0 rfl rfl) (Nat.lt_succ_self _)
      · refine z_iconst (pc := 22) (v := (-1)) dX7_changes_22 rfl ?_
        refine z_iret (pc := 23) rfl dX7_changes_23 ?_
        exact hQ (-1) (by first | exact Or.inl ⟨rfl, by omega⟩ | exact Or.inr ⟨by omega, by rw [i1, show k = hi 2 1 by omega]⟩)
  · refine z_iload_n (pc := 7) dX7_changes_7 rfl 1 rfl ?_
    refine z_bipush (pc := 8) (v := 64) dX7_changes_8 (by decide +kernel) ?_
    refine z_icmp_ne (pc := 10) (tgt := 22) dX7_changes_10 (by decide) ⟨by omega, by omega⟩ ⟨by decide, by decide⟩ (fun c18 => ?_) (fun c18 => ?_)
    · refine z_iconst (pc := 22) (v := (-1)) dX7_changes_22 rfl ?_
      refine z_iret (pc := 23) rfl dX7_changes_23 ?_
      exact hQ (-1) (by first | exact Or.inl ⟨rfl, by omega⟩ | exact Or.inr ⟨by omega, by rw [i1, show k = hi 2 1 by omega]⟩)
    · refine z_iload_n (pc := 13) dX7_changes_13 rfl 2 rfl ?_
      refine z_if_lt (pc := 14) (tgt := 22) dX7_changes_14 (by decide) ⟨by omega, by omega⟩ (fun c19 => ?_) (fun c19 => ?_)
      · refine z_iconst (pc := 22) (v := (-1)) dX7_changes_22 rfl ?_
        refine z_iret (pc := 23) rfl dX7_changes_23 ?_
        exact hQ (-1) (by first | exact Or.inl ⟨rfl, by omega⟩ | exact Or.inr ⟨by omega, by rw [i1, show k = hi 2 1 by omega]⟩)
      · refine z_iload_n (pc := 17) dX7_changes_17 rfl 2 rfl ?_
        refine z_iconst (pc := 18) (v := 1) dX7_changes_18 rfl ?_
        refine z_icmp_le (pc := 19) (tgt := 24) dX7_changes_19 (by decide) ⟨by omega, by omega⟩ ⟨by decide, by decide⟩ (fun c20 => ?_) (fun c20 => ?_)
        · refine z_iconst (pc := 24) (v := 0) dX7_changes_24 rfl ?_
          refine z_istore_n (pc := 25) (lv' := [(3, AI 0), (0, AR 1), (1, AI h), (2, AI y)]) dX7_changes_25 rfl (by decide) rfl ?_
          refine z_iconst (pc := 26) (v := 0) dX7_changes_26 rfl ?_
          refine z_istore (pc := 27) (lv' := [(4, AI 0), (3, AI 0), (0, AR 1), (1, AI h), (2, AI y)]) dX7_changes_27 (by decide) rfl ?_
          have h0 := hpre.1.1
          have J29 : ∀ (N : Nat) (k acc : Int), (0 ≤ k ∧ k ≤ hi 2 1) → (acc = sm (fun z => if (if y = 0 then bO (hi 2) z else dO (hi 2) z) = h then 1 else 0) k.toNat) → ((hi 2 1 - k).toNat) < N → Z kX7_changes Q 29 [(4, AI k), (3, AI acc), (0, AR 1), (1, AI h), (2, AI y)] [] hi := by
            intro N
            induction N with
            | zero => intro k acc _ _ _; exact absurd (by assumption) (Nat.not_lt_zero _)
            | succ N ih29 =>
              intro k acc i0 i1 hm29
              refine z_iload (pc := 29) dX7_changes_29 0 rfl ?_
              refine z_aload_n (pc := 31) (x := 1) dX7_changes_31 rfl 2 rfl ?_
              refine z_getR (pc := 32) (pl := 0) (f := 0) (ci := 6) (C := RX7) (T := TX7) (N := 13) hu_X7 (by decide) rfl rfl (by decide) rfl (List.mem_cons_of_mem _ (iw1 _ (List.mem_of_getElem? (i := 16) rfl))) rfl dX7_changes_32 ?_
              refine z_callV (pc := 35) (kc := kX1_size) (n := 0) (pl := 1) (ci := 1) (C := RX1) (As := []) (stk := [AI k]) ct_X1_size (gdV rfl rfl (iw7 _ (List.mem_of_getElem? (i := 21) rfl)) (iw7 _ (List.mem_of_getElem? (i := 2) rfl)) (iw7 _ (List.mem_of_getElem? (i := 3) rfl)) (iw1 _ (List.mem_of_getElem? (i := 15) rfl)) (iw7 _ (List.mem_of_getElem? (i := 4) rfl))) rfl ⟨rfl, rfl⟩ (by decide +kernel) ⟨by decide, by decide⟩ (by decide) rfl rfl dX7_changes_35 rfl rfl (Nat.le_of_ble_eq_true rfl) ?_
              refine ⟨rfl, trivial, fun v21 ev21 => ?_⟩
              refine z_icmp_ge (pc := 38) (tgt := 83) dX7_changes_38 (by decide) ⟨by omega, by omega⟩ ⟨by omega, by omega⟩ (fun c22 => ?_) (fun c22 => ?_)
              · refine z_iload_n (pc := 83) dX7_changes_83 rfl 1 rfl ?_
                refine z_iret (pc := 84) rfl dX7_changes_84 ?_
                exact hQ acc (by first | exact Or.inl ⟨rfl, by omega⟩ | exact Or.inr ⟨by omega, by rw [i1, show k = hi 2 1 by omega]⟩)
              · refine z_iload_n (pc := 41) dX7_changes_41 rfl 4 rfl ?_
                refine z_if_ne (pc := 42) (tgt := 57) dX7_changes_42 (by decide) ⟨by omega, by omega⟩ (fun c23 => ?_) (fun c23 => ?_)
                · refine z_aload_n (pc := 57) (x := 1) dX7_changes_57 rfl 2 rfl ?_
                  refine z_getR (pc := 58) (pl := 0) (f := 0) (ci := 6) (C := RX7) (T := TX7) (N := 13) hu_X7 (by decide) rfl rfl (by decide) rfl (List.mem_cons_of_mem _ (iw1 _ (List.mem_of_getElem? (i := 16) rfl))) rfl dX7_changes_58 ?_
                  refine z_iload (pc := 61) dX7_changes_61 0 rfl ?_
                  refine z_callV (pc := 63) (kc := kX1_deathOf) (n := 1) (pl := 1) (ci := 1) (C := RX1) (As := [AI k]) (stk := []) ct_X1_deathOf (gdV rfl rfl (iw14 _ (List.mem_of_getElem? (i := 8) rfl)) (iw7 _ (List.mem_of_getElem? (i := 14) rfl)) (iw7 _ (List.mem_of_getElem? (i := 15) rfl)) (iw1 _ (List.mem_of_getElem? (i := 15) rfl)) (iw7 _ (List.mem_of_getElem? (i := 16) rfl))) rfl ⟨rfl, rfl⟩ (by decide +kernel) ⟨by decide, by decide⟩ (by decide) rfl rfl dX7_changes_63 rfl rfl (Nat.le_of_ble_eq_true rfl) ?_
                  refine ⟨_, rfl, by omega, fun v24 ev24 => ?_⟩
                  refine z_istore (pc := 66) (lv' := [(5, AI v24), (4, AI k), (3, AI acc), (0, AR 1), (1, AI h), (2, AI y)]) dX7_changes_66 (by decide) rfl ?_
                  refine z_iload (pc := 68) dX7_changes_68 0 rfl ?_
                  refine z_iload_n (pc := 70) dX7_changes_70 rfl 4 rfl ?_
                  refine z_icmp_ne (pc := 71) (tgt := 77) dX7_changes_71 (by decide) ⟨by omega, by omega⟩ ⟨by omega, by omega⟩ (fun c25 => ?_) (fun c25 => ?_)
                  · refine z_iinc (pc := 77) (j := 1) (w := fun q => (4, AI q) :: [(5, AI v24), (3, AI acc), (0, AR 1), (1, AI h), (2, AI y)]) dX7_changes_77 rfl (by decide) (fun _ => rfl) (fun v26 ev26 => ?_)
                    refine z_goto (pc := 80) (tgt := 29) dX7_changes_80 (by decide) ?_
                    refine z_sub (lv' := [(4, AI v26), (3, AI acc), (0, AR 1), (1, AI h), (2, AI y)]) [0, 2, 3, 4, 5] rfl ?_
                    exact ih29 v26 acc (by omega) (sm_step (by omega) (by omega) i1 (by (repeat split) <;> omega)) (by omega)
                  · refine z_iinc (pc := 74) (j := 2) (w := fun q => (3, AI q) :: [(5, AI v24), (4, AI k), (0, AR 1), (1, AI h), (2, AI y)]) dX7_changes_74 rfl (by decide) (fun _ => rfl) (fun v27 ev27 => ?_)
                    refine z_iinc (pc := 77) (j := 2) (w := fun q => (4, AI q) :: [(3, AI v27), (5, AI v24), (0, AR 1), (1, AI h), (2, AI y)]) dX7_changes_77 rfl (by decide) (fun _ => rfl) (fun v28 ev28 => ?_)
                    refine z_goto (pc := 80) (tgt := 29) dX7_changes_80 (by decide) ?_
                    refine z_sub (lv' := [(4, AI v28), (3, AI v27), (0, AR 1), (1, AI h), (2, AI y)]) [0, 1, 3, 4, 5] rfl ?_
                    exact ih29 v28 v27 (by omega) (sm_step (by omega) (by omega) i1 (by (repeat split) <;> omega)) (by omega)
                · refine z_aload_n (pc := 45) (x := 1) dX7_changes_45 rfl 2 rfl ?_
                  refine z_getR (pc := 46) (pl := 0) (f := 0) (ci := 6) (C := RX7) (T := TX7) (N := 13) hu_X7 (by decide) rfl rfl (by decide) rfl (List.mem_cons_of_mem _ (iw1 _ (List.mem_of_getElem? (i := 16) rfl))) rfl dX7_changes_46 ?_
                  refine z_iload (pc := 49) dX7_changes_49 0 rfl ?_
                  refine z_callV (pc := 51) (kc := kX1_birthOf) (n := 1) (pl := 1) (ci := 1) (C := RX1) (As := [AI k]) (stk := []) ct_X1_birthOf (gdV rfl rfl (iw12 _ (List.mem_of_getElem? (i := 2) rfl)) (iw7 _ (List.mem_of_getElem? (i := 10) rfl)) (iw7 _ (List.mem_of_getElem? (i := 11) rfl)) (iw1 _ (List.mem_of_getElem? (i := 15) rfl)) (iw7 _ (List.mem_of_getElem? (i := 12) rfl))) rfl ⟨rfl, rfl⟩ (by decide +kernel) ⟨by decide, by decide⟩ (by decide) rfl rfl dX7_changes_51 rfl rfl (Nat.le_of_ble_eq_true rfl) ?_
                  refine ⟨_, rfl, by omega, fun v29 ev29 => ?_⟩
                  refine z_goto (pc := 54) (tgt := 66) dX7_changes_54 (by decide) ?_
                  refine z_istore (pc := 66) (lv' := [(5, AI v29), (4, AI k), (3, AI acc), (0, AR 1), (1, AI h), (2, AI y)]) dX7_changes_66 (by decide) rfl ?_
                  refine z_iload (pc := 68) dX7_changes_68 0 rfl ?_
                  refine z_iload_n (pc := 70) dX7_changes_70 rfl 4 rfl ?_
                  refine z_icmp_ne (pc := 71) (tgt := 77) dX7_changes_71 (by decide) ⟨by omega, by omega⟩ ⟨by omega, by omega⟩ (fun c30 => ?_) (fun c30 => ?_)
                  · refine z_iinc (pc := 77) (j := 1) (w := fun q => (4, AI q) :: [(5, AI v29), (3, AI acc), (0, AR 1), (1, AI h), (2, AI y)]) dX7_changes_77 rfl (by decide) (fun _ => rfl) (fun v31 ev31 => ?_)
                    refine z_goto (pc := 80) (tgt := 29) dX7_changes_80 (by decide) ?_
                    refine z_sub (lv' := [(4, AI v31), (3, AI acc), (0, AR 1), (1, AI h), (2, AI y)]) [0, 2, 3, 4, 5] rfl ?_
                    exact ih29 v31 acc (by omega) (sm_step (by omega) (by omega) i1 (by (repeat split) <;> omega)) (by omega)
                  · refine z_iinc (pc := 74) (j := 2) (w := fun q => (3, AI q) :: [(5, AI v29), (4, AI k), (0, AR 1), (1, AI h), (2, AI y)]) dX7_changes_74 rfl (by decide) (fun _ => rfl) (fun v32 ev32 => ?_)
                    refine z_iinc (pc := 77) (j := 2) (w := fun q => (4, AI q) :: [(3, AI v32), (5, AI v29), (0, AR 1), (1, AI h), (2, AI y)]) dX7_changes_77 rfl (by decide) (fun _ => rfl) (fun v33 ev33 => ?_)
                    refine z_goto (pc := 80) (tgt := 29) dX7_changes_80 (by decide) ?_
                    refine z_sub (lv' := [(4, AI v33), (3, AI v32), (0, AR 1), (1, AI h), (2, AI y)]) [0, 1, 3, 4, 5] rfl ?_
                    exact ih29 v33 v32 (by omega) (sm_step (by omega) (by omega) i1 (by (repeat split) <;> omega)) (by omega)
          exact J29 _ 0 0 (by omega) (sm_0 rfl rfl) (Nat.lt_succ_self _)
        · refine z_iconst (pc := 22) (v := (-1)) dX7_changes_22 rfl ?_
          refine z_iret (pc := 23) rfl dX7_changes_23 ?_
          exact hQ (-1) (by first | exact Or.inl ⟨rfl, by omega⟩ | exact Or.inr ⟨by omega, by rw [i1, show k = hi 2 1 by omega]⟩)

abbrev kX7_on : Kd := (cX7_on, .code yX7_on cX7_on 4 (some .int) :: wsL_law0, rmL 3, RX7, (some .int), 4)
theorem ct_X7_on : Ct kX7_on yX7_on (fun a hi Q => ∃ p : Int, a = [AR 1, AI p] ∧ (RI (hi 2) (hi 2 1) ∧ inR p) ∧ ∀ v : Int, ((v = -1 ∧ ¬ (1 ≤ p ∧ p ≤ 127)) ∨ ((1 ≤ p ∧ p ≤ 127) ∧ v = sm (fun z => if ofP p (bO (hi 2) z) (dO (hi 2) z) then 1 else 0) (hi 2 1).toNat)) → Q (AI v) hi) := by
  refine Ct.of (ws' := _) (by decide +kernel) rfl rfl ?_
  intro a hi Q hT
  obtain ⟨p, rfl, hpre, hQ⟩ := hT
  refine ⟨Nat.le_of_ble_eq_true rfl, ?_⟩
  show Z kX7_on Q 0 [(0, AR 1), (1, AI p)] [] hi
  refine z_iload_n (pc := 0) dX7_on_0 rfl 1 rfl ?_
  refine z_callS (pc := 1) (kc := kX7_isPiece) (n := 1) (As := [AI p]) (stk := []) ct_X7_isPiece (gdS rfl rfl (iw51 _ (List.mem_of_getElem? (i := 0) rfl)) (iw51 _ (List.mem_of_getElem? (i := 1) rfl)) (iw1 _ (List.mem_of_getElem? (i := 2) rfl)) (iw51 _ (List.mem_of_getElem? (i := 2) rfl))) rfl ⟨rfl, rfl⟩ (by decide +kernel) ⟨by decide, by decide⟩ dX7_on_1 rfl rfl (Nat.le_of_ble_eq_true rfl) ?_
  refine ⟨_, rfl, by omega, fun v1 ev1 => ?_⟩
  refine z_if_ne (pc := 4) (tgt := 9) dX7_on_4 (by decide) ⟨by omega, by omega⟩ (fun c2 => ?_) (fun c2 => ?_)
  · refine z_iconst (pc := 9) (v := 0) dX7_on_9 rfl ?_
    refine z_istore_n (pc := 10) (lv' := [(2, AI 0), (0, AR 1), (1, AI p)]) dX7_on_10 rfl (by decide) rfl ?_
    refine z_iconst (pc := 11) (v := 0) dX7_on_11 rfl ?_
    refine z_istore_n (pc := 12) (lv' := [(3, AI 0), (2, AI 0), (0, AR 1), (1, AI p)]) dX7_on_12 rfl (by decide) rfl ?_
    have h0 := hpre.1.1
    have J13 : ∀ (N : Nat) (k acc : Int), (0 ≤ k ∧ k ≤ hi 2 1) → (acc = sm (fun z => if ofP p (bO (hi 2) z) (dO (hi 2) z) then 1 else 0) k.toNat) → ((hi 2 1 - k).toNat) < N → Z kX7_on Q 13 [(3, AI k), (2, AI acc), (0, AR 1), (1, AI p)] [] hi := by
      intro N
      induction N with
      | zero => intro k acc _ _ _; exact absurd (by assumption) (Nat.not_lt_zero _)
      | succ N ih13 =>
        intro k acc i0 i1 hm13
        refine z_iload_n (pc := 13) dX7_on_13 rfl 0 rfl ?_
        refine z_aload_n (pc := 14) (x := 1) dX7_on_14 rfl 2 rfl ?_
        refine z_getR (pc := 15) (pl := 0) (f := 0) (ci := 6) (C := RX7) (T := TX7) (N := 13) hu_X7 (by decide) rfl rfl (by decide) rfl (List.mem_cons_of_mem _ (iw1 _ (List.mem_of_getElem? (i := 16) rfl))) rfl dX7_on_15 ?_
        refine z_callV (pc := 18) (kc := kX1_size) (n := 0) (pl := 1) (ci := 1) (C := RX1) (As := []) (stk := [AI k]) ct_X1_size (gdV rfl rfl (iw7 _ (List.mem_of_getElem? (i := 21) rfl)) (iw7 _ (List.mem_of_getElem? (i := 2) rfl)) (iw7 _ (List.mem_of_getElem? (i := 3) rfl)) (iw1 _ (List.mem_of_getElem? (i := 15) rfl)) (iw7 _ (List.mem_of_getElem? (i := 4) rfl))) rfl ⟨rfl, rfl⟩ (by decide +kernel) ⟨by decide, by decide⟩ (by decide) rfl rfl dX7_on_18 rfl rfl (Nat.le_of_ble_eq_true rfl) ?_
        refine ⟨rfl, trivial, fun v3 ev3 => ?_⟩
        refine z_icmp_ge (pc := 21) (tgt := 45) dX7_on_21 (by decide) ⟨by omega, by omega⟩ ⟨by omega, by omega⟩ (fun c4 => ?_) (fun c4 => ?_)
        · refine z_iload_n (pc := 45) dX7_on_45 rfl 1 rfl ?_
          refine z_iret (pc := 46) rfl dX7_on_46 ?_
          exact hQ acc (by first | exact Or.inl ⟨rfl, by omega⟩ | exact Or.inr ⟨by omega, by rw [i1, show k = hi 2 1 by omega]⟩)
        · refine z_aload_n (pc := 24) (x := 1) dX7_on_24 rfl 2 rfl ?_
          refine z_getR (pc := 25) (pl := 0) (f := 0) (ci := 6) (C := RX7) (T := TX7) (N := 13) hu_X7 (by decide) rfl rfl (by decide) rfl (List.mem_cons_of_mem _ (iw1 _ (List.mem_of_getElem? (i := 16) rfl))) rfl dX7_on_25 ?_
          refine z_iload_n (pc := 28) dX7_on_28 rfl 0 rfl ?_
          refine z_iload_n (pc := 29) dX7_on_29 rfl 3 rfl ?_
          refine z_callV (pc := 30) (kc := kX1_isCoveredBy) (n := 2) (pl := 1) (ci := 1) (C := RX1) (As := [AI k, AI p]) (stk := []) ct_X1_isCoveredBy (gdV rfl rfl (iw51 _ (List.mem_of_getElem? (i := 3) rfl)) (iw51 _ (List.mem_of_getElem? (i := 4) rfl)) (iw51 _ (List.mem_of_getElem? (i := 5) rfl)) (iw1 _ (List.mem_of_getElem? (i := 15) rfl)) (iw51 _ (List.mem_of_getElem? (i := 6) rfl))) rfl ⟨rfl, rfl⟩ (by decide +kernel) ⟨by decide, by decide⟩ (by decide) rfl rfl dX7_on_30 rfl rfl (Nat.le_of_ble_eq_true rfl) ?_
          refine ⟨_, _, rfl, by omega, fun v5 ev5 => ?_⟩
          refine z_if_eq (pc := 33) (tgt := 39) dX7_on_33 (by decide) ⟨by omega, by omega⟩ (fun c6 => ?_) (fun c6 => ?_)
          · refine z_iinc (pc := 39) (j := 0) (w := fun q => (3, AI q) :: [(2, AI acc), (0, AR 1), (1, AI p)]) dX7_on_39 rfl (by decide) (fun _ => rfl) (fun v7 ev7 => ?_)
            refine z_goto (pc := 42) (tgt := 13) dX7_on_42 (by decide) ?_
            exact ih13 v7 acc (by omega) (sm_step (by omega) (by omega) i1 (by first | omega | (split <;> omega))) (by omega)
          · refine z_iinc (pc := 36) (j := 1) (w := fun q => (2, AI q) :: [(3, AI k), (0, AR 1), (1, AI p)]) dX7_on_36 rfl (by decide) (fun _ => rfl) (fun v8 ev8 => ?_)
            refine z_iinc (pc := 39) (j := 1) (w := fun q => (3, AI q) :: [(2, AI v8), (0, AR 1), (1, AI p)]) dX7_on_39 rfl (by decide) (fun _ => rfl) (fun v9 ev9 => ?_)
            refine z_goto (pc := 42) (tgt := 13) dX7_on_42 (by decide) ?_
            exact ih13 v9 v8 (by omega) (sm_step (by omega) (by omega) i1 (by first | omega | (split <;> omega))) (by omega)
    exact J13 _ 0 0 (by omega) (sm_0 rfl rfl) (Nat.lt_succ_self _)
  · refine z_iconst (pc := 7) (v := (-1)) dX7_on_7 rfl ?_
    refine z_iret (pc := 8) rfl dX7_on_8 ?_
    exact hQ (-1) (by first | exact Or.inl ⟨rfl, by omega⟩ | exact Or.inr ⟨by omega, by rw [i1, show k = hi 2 1 by omega]⟩)

abbrev kX7_kth : Kd := (cX7_kth, .code yX7_kth cX7_kth 5 (some .int) :: wsL_law0, rmL 3, RX7, (some .int), 5)
theorem ct_X7_kth : Ct kX7_kth yX7_kth (fun a hi Q => ∃ h : Int, ∃ k : Int, a = [AR 1, AI h, AI k] ∧ (RI (hi 2) (hi 2 1) ∧ inR h ∧ inR k) ∧ ∀ v : Int, ((v = -1 ∧ ¬ ((0 ≤ h ∧ h < 64) ∧ 0 ≤ k)) ∨ (((0 ≤ h ∧ h < 64) ∧ 0 ≤ k) ∧ ∃ i : Int, Fst (fun z => (al (hi 2) z h) ∧ sm (fun z => if al (hi 2) z h then 1 else 0) z.toNat = k) (hi 2 1) i ∧ ((i < 0 ∧ v = -2) ∨ (0 ≤ i ∧ v = nO (hi 2) i)))) → Q (AI v) hi) := by
  refine Ct.of (ws' := _) (by decide +kernel) rfl rfl ?_
  intro a hi Q hT
  obtain ⟨h, k, rfl, hpre, hQ⟩ := hT
  refine ⟨Nat.le_of_ble_eq_true rfl, ?_⟩
  show Z kX7_kth Q 0 [(0, AR 1), (1, AI h), (2, AI k)] [] hi
  refine z_iload_n (pc := 0) dX7_kth_0 rfl 1 rfl ?_
  refine z_callS (pc := 1) (kc := kX7_isHour) (n := 1) (As := [AI h]) (stk := []) ct_X7_isHour (gdS rfl rfl (iw6 _ (List.mem_of_getElem? (i := 7) rfl)) (iw6 _ (List.mem_of_getElem? (i := 8) rfl)) (iw1 _ (List.mem_of_getElem? (i := 2) rfl)) (iw6 _ (List.mem_of_getElem? (i := 9) rfl))) rfl ⟨rfl, rfl⟩ (by decide +kernel) ⟨by decide, by decide⟩ dX7_kth_1 rfl rfl (Nat.le_of_ble_eq_true rfl) ?_
  refine ⟨_, rfl, by omega, fun v1 ev1 => ?_⟩
  refine z_if_eq (pc := 4) (tgt := 11) dX7_kth_4 (by decide) ⟨by omega, by omega⟩ (fun c2 => ?_) (fun c2 => ?_)
  · refine z_iconst (pc := 11) (v := (-1)) dX7_kth_11 rfl ?_
    refine z_iret (pc := 12) rfl dX7_kth_12 ?_
    exact hQ (-1) (by first | exact Or.inl ⟨rfl, by omega⟩ | exact Or.inr ⟨by omega, -1, Or.inr ⟨rfl, fun z z0 z1 => i2 z z0 (by omega)⟩, by omega⟩ | exact Or.inr ⟨by omega, j, Or.inl ⟨by omega, by omega, ⟨by omega, by rw [← i1.1]; omega⟩, i2⟩, by omega⟩)
  · refine z_iload_n (pc := 7) dX7_kth_7 rfl 2 rfl ?_
    refine z_if_ge (pc := 8) (tgt := 13) dX7_kth_8 (by decide) ⟨by omega, by omega⟩ (fun c3 => ?_) (fun c3 => ?_)
    · refine z_iconst (pc := 13) (v := 0) dX7_kth_13 rfl ?_
      refine z_istore_n (pc := 14) (lv' := [(3, AI 0), (0, AR 1), (1, AI h), (2, AI k)]) dX7_kth_14 rfl (by decide) rfl ?_
      refine z_iconst (pc := 15) (v := 0) dX7_kth_15 rfl ?_
      refine z_istore (pc := 16) (lv' := [(4, AI 0), (3, AI 0), (0, AR 1), (1, AI h), (2, AI k)]) dX7_kth_16 (by decide) rfl ?_
      have h0 := hpre.1.1
      have J18 : ∀ (N : Nat) (j acc : Int), (0 ≤ j ∧ j ≤ hi 2 1) → (acc = sm (fun z => if al (hi 2) z h then 1 else 0) j.toNat ∧ 0 ≤ acc ∧ acc ≤ j) → (∀ z : Int, 0 ≤ z → z < j → ¬ ((al (hi 2) z h) ∧ sm (fun z => if al (hi 2) z h then 1 else 0) z.toNat = k)) → ((hi 2 1 - j).toNat) < N → Z kX7_kth Q 18 [(4, AI j), (3, AI acc), (0, AR 1), (1, AI h), (2, AI k)] [] hi := by
        intro N
        induction N with
        | zero => intro j acc _ _ _ _; exact absurd (by assumption) (Nat.not_lt_zero _)
        | succ N ih18 =>
          intro j acc i0 i1 i2 hm18
          refine z_iload (pc := 18) dX7_kth_18 0 rfl ?_
          refine z_aload_n (pc := 20) (x := 1) dX7_kth_20 rfl 2 rfl ?_
          refine z_getR (pc := 21) (pl := 0) (f := 0) (ci := 6) (C := RX7) (T := TX7) (N := 13) hu_X7 (by decide) rfl rfl (by decide) rfl (List.mem_cons_of_mem _ (iw1 _ (List.mem_of_getElem? (i := 16) rfl))) rfl dX7_kth_21 ?_
          refine z_callV (pc := 24) (kc := kX1_size) (n := 0) (pl := 1) (ci := 1) (C := RX1) (As := []) (stk := [AI j]) ct_X1_size (gdV rfl rfl (iw7 _ (List.mem_of_getElem? (i := 21) rfl)) (iw7 _ (List.mem_of_getElem? (i := 2) rfl)) (iw7 _ (List.mem_of_getElem? (i := 3) rfl)) (iw1 _ (List.mem_of_getElem? (i := 15) rfl)) (iw7 _ (List.mem_of_getElem? (i := 4) rfl))) rfl ⟨rfl, rfl⟩ (by decide +kernel) ⟨by decide, by decide⟩ (by decide) rfl rfl dX7_kth_24 rfl rfl (Nat.le_of_ble_eq_true rfl) ?_
          refine ⟨rfl, trivial, fun v4 ev4 => ?_⟩
          refine z_icmp_ge (pc := 27) (tgt := 67) dX7_kth_27 (by decide) ⟨by omega, by omega⟩ ⟨by omega, by omega⟩ (fun c5 => ?_) (fun c5 => ?_)
          · refine z_bipush (pc := 67) (v := (-2)) dX7_kth_67 (by decide +kernel) ?_
            refine z_iret (pc := 69) rfl dX7_kth_69 ?_
            exact hQ (-2) (by first | exact Or.inl ⟨rfl, by omega⟩ | exact Or.inr ⟨by omega, -1, Or.inr ⟨rfl, fun z z0 z1 => i2 z z0 (by omega)⟩, by omega⟩ | exact Or.inr ⟨by omega, j, Or.inl ⟨by omega, by omega, ⟨by omega, by rw [← i1.1]; omega⟩, i2⟩, by omega⟩)
          · refine z_aload_n (pc := 30) (x := 1) dX7_kth_30 rfl 2 rfl ?_
            refine z_getR (pc := 31) (pl := 0) (f := 0) (ci := 6) (C := RX7) (T := TX7) (N := 13) hu_X7 (by decide) rfl rfl (by decide) rfl (List.mem_cons_of_mem _ (iw1 _ (List.mem_of_getElem? (i := 16) rfl))) rfl dX7_kth_31 ?_
            refine z_iload (pc := 34) dX7_kth_34 0 rfl ?_
            refine z_iload_n (pc := 36) dX7_kth_36 rfl 3 rfl ?_
            refine z_callV (pc := 37) (kc := kX1_isAlive) (n := 2) (pl := 1) (ci := 1) (C := RX1) (As := [AI j, AI h]) (stk := []) ct_X1_isAlive (gdV rfl rfl (iw46 _ (List.mem_of_getElem? (i := 1) rfl)) (iw11 _ (List.mem_of_getElem? (i := 23) rfl)) (iw12 _ (List.mem_of_getElem? (i := 0) rfl)) (iw1 _ (List.mem_of_getElem? (i := 15) rfl)) (iw12 _ (List.mem_of_getElem? (i := 1) rfl))) rfl ⟨rfl, rfl⟩ (by decide +kernel) ⟨by decide, by decide⟩ (by decide) rfl rfl dX7_kth_37 rfl rfl (Nat.le_of_ble_eq_true rfl) ?_
            refine ⟨_, _, rfl, by omega, fun v6 ev6 => ?_⟩
            refine z_if_eq (pc := 40) (tgt := 61) dX7_kth_40 (by decide) ⟨by omega, by omega⟩ (fun c7 => ?_) (fun c7 => ?_)
            · refine z_iinc (pc := 61) (j := 0) (w := fun q => (4, AI q) :: [(3, AI acc), (0, AR 1), (1, AI h), (2, AI k)]) dX7_kth_61 rfl (by decide) (fun _ => rfl) (fun v8 ev8 => ?_)
              refine z_goto (pc := 64) (tgt := 18) dX7_kth_64 (by decide) ?_
              exact ih18 v8 acc (by omega) (⟨sm_step (by omega) (by omega) i1.1 (by first | omega | (split <;> omega)), by omega⟩) (no_step i2 (by rw [← i1.1]; omega) (by omega)) (by omega)
            · refine z_iload_n (pc := 43) dX7_kth_43 rfl 1 rfl ?_
              refine z_iload_n (pc := 44) dX7_kth_44 rfl 4 rfl ?_
              refine z_icmp_ne (pc := 45) (tgt := 58) dX7_kth_45 (by decide) ⟨by omega, by omega⟩ ⟨by omega, by omega⟩ (fun c9 => ?_) (fun c9 => ?_)
              · refine z_iinc (pc := 58) (j := 1) (w := fun q => (3, AI q) :: [(4, AI j), (0, AR 1), (1, AI h), (2, AI k)]) dX7_kth_58 rfl (by decide) (fun _ => rfl) (fun v10 ev10 => ?_)
                refine z_iinc (pc := 61) (j := 1) (w := fun q => (4, AI q) :: [(3, AI v10), (0, AR 1), (1, AI h), (2, AI k)]) dX7_kth_61 rfl (by decide) (fun _ => rfl) (fun v11 ev11 => ?_)
                refine z_goto (pc := 64) (tgt := 18) dX7_kth_64 (by decide) ?_
                exact ih18 v11 v10 (by omega) (⟨sm_step (by omega) (by omega) i1.1 (by first | omega | (split <;> omega)), by omega⟩) (no_step i2 (by rw [← i1.1]; omega) (by omega)) (by omega)
              · refine z_aload_n (pc := 48) (x := 1) dX7_kth_48 rfl 2 rfl ?_
                refine z_getR (pc := 49) (pl := 0) (f := 0) (ci := 6) (C := RX7) (T := TX7) (N := 13) hu_X7 (by decide) rfl rfl (by decide) rfl (List.mem_cons_of_mem _ (iw1 _ (List.mem_of_getElem? (i := 16) rfl))) rfl dX7_kth_49 ?_
                refine z_iload (pc := 52) dX7_kth_52 0 rfl ?_
                refine z_callV (pc := 54) (kc := kX1_numberOf) (n := 1) (pl := 1) (ci := 1) (C := RX1) (As := [AI j]) (stk := []) ct_X1_numberOf (gdV rfl rfl (iw12 _ (List.mem_of_getElem? (i := 7) rfl)) (iw7 _ (List.mem_of_getElem? (i := 6) rfl)) (iw7 _ (List.mem_of_getElem? (i := 7) rfl)) (iw1 _ (List.mem_of_getElem? (i := 15) rfl)) (iw7 _ (List.mem_of_getElem? (i := 8) rfl))) rfl ⟨rfl, rfl⟩ (by decide +kernel) ⟨by decide, by decide⟩ (by decide) rfl rfl dX7_kth_54 rfl rfl (Nat.le_of_ble_eq_true rfl) ?_
                refine ⟨_, rfl, by omega, fun v12 ev12 => ?_⟩
                refine z_iret (pc := 57) rfl dX7_kth_57 ?_
                exact hQ v12 (by first | exact Or.inl ⟨rfl, by omega⟩ | exact Or.inr ⟨by omega, -1, Or.inr ⟨rfl, fun z z0 z1 => i2 z z0 (by omega)⟩, by omega⟩ | exact Or.inr ⟨by omega, j, Or.inl ⟨by omega, by omega, ⟨by omega, by rw [← i1.1]; omega⟩, i2⟩, by omega⟩)
      exact J18 _ 0 0 (by omega) (⟨sm_0 rfl rfl, by omega⟩) (no_0 rfl) (Nat.lt_succ_self _)
    · refine z_iconst (pc := 11) (v := (-1)) dX7_kth_11 rfl ?_
      refine z_iret (pc := 12) rfl dX7_kth_12 ?_
      exact hQ (-1) (by first | exact Or.inl ⟨rfl, by omega⟩ | exact Or.inr ⟨by omega, -1, Or.inr ⟨rfl, fun z z0 z1 => i2 z z0 (by omega)⟩, by omega⟩ | exact Or.inr ⟨by omega, j, Or.inl ⟨by omega, by omega, ⟨by omega, by rw [← i1.1]; omega⟩, i2⟩, by omega⟩)

abbrev kX7_onAt : Kd := (cX7_onAt, .code yX7_onAt cX7_onAt 5 (some .int) :: wsL_law0, rmL 3, RX7, (some .int), 5)
theorem ct_X7_onAt : Ct kX7_onAt yX7_onAt (fun a hi Q => ∃ p : Int, ∃ k : Int, a = [AR 1, AI p, AI k] ∧ (RI (hi 2) (hi 2 1) ∧ inR p ∧ inR k) ∧ ∀ v : Int, ((v = -1 ∧ ¬ ((1 ≤ p ∧ p ≤ 127) ∧ 0 ≤ k)) ∨ (((1 ≤ p ∧ p ≤ 127) ∧ 0 ≤ k) ∧ ∃ i : Int, Fst (fun z => (ofP p (bO (hi 2) z) (dO (hi 2) z)) ∧ sm (fun z => if ofP p (bO (hi 2) z) (dO (hi 2) z) then 1 else 0) z.toNat = k) (hi 2 1) i ∧ ((i < 0 ∧ v = -2) ∨ (0 ≤ i ∧ v = nO (hi 2) i)))) → Q (AI v) hi) := by
  refine Ct.of (ws' := _) (by decide +kernel) rfl rfl ?_
  intro a hi Q hT
  obtain ⟨p, k, rfl, hpre, hQ⟩ := hT
  refine ⟨Nat.le_of_ble_eq_true rfl, ?_⟩
  show Z kX7_onAt Q 0 [(0, AR 1), (1, AI p), (2, AI k)] [] hi
  refine z_iload_n (pc := 0) dX7_onAt_0 rfl 1 rfl ?_
  refine z_callS (pc := 1) (kc := kX7_isPiece) (n := 1) (As := [AI p]) (stk := []) ct_X7_isPiece (gdS rfl rfl (iw51 _ (List.mem_of_getElem? (i := 0) rfl)) (iw51 _ (List.mem_of_getElem? (i := 1) rfl)) (iw1 _ (List.mem_of_getElem? (i := 2) rfl)) (iw51 _ (List.mem_of_getElem? (i := 2) rfl))) rfl ⟨rfl, rfl⟩ (by decide +kernel) ⟨by decide, by decide⟩ dX7_onAt_1 rfl rfl (Nat.le_of_ble_eq_true rfl) ?_
  refine ⟨_, rfl, by omega, fun v1 ev1 => ?_⟩
  refine z_if_eq (pc := 4) (tgt := 11) dX7_onAt_4 (by decide) ⟨by omega, by omega⟩ (fun c2 => ?_) (fun c2 => ?_)
  · refine z_iconst (pc := 11) (v := (-1)) dX7_onAt_11 rfl ?_
    refine z_iret (pc := 12) rfl dX7_onAt_12 ?_
    exact hQ (-1) (by first | exact Or.inl ⟨rfl, by omega⟩ | exact Or.inr ⟨by omega, -1, Or.inr ⟨rfl, fun z z0 z1 => i2 z z0 (by omega)⟩, by omega⟩ | exact Or.inr ⟨by omega, j, Or.inl ⟨by omega, by omega, ⟨by omega, by rw [← i1.1]; omega⟩, i2⟩, by omega⟩)
  · refine z_iload_n (pc := 7) dX7_onAt_7 rfl 2 rfl ?_
    refine z_if_ge (pc := 8) (tgt := 13) dX7_onAt_8 (by decide) ⟨by omega, by omega⟩ (fun c3 => ?_) (fun c3 => ?_)
    · refine z_iconst (pc := 13) (v := 0) dX7_onAt_13 rfl ?_
      refine z_istore_n (pc := 14) (lv' := [(3, AI 0), (0, AR 1), (1, AI p), (2, AI k)]) dX7_onAt_14 rfl (by decide) rfl ?_
      refine z_iconst (pc := 15) (v := 0) dX7_onAt_15 rfl ?_
      refine z_istore (pc := 16) (lv' := [(4, AI 0), (3, AI 0), (0, AR 1), (1, AI p), (2, AI k)]) dX7_onAt_16 (by decide) rfl ?_
      have h0 := hpre.1.1
      have J18 : ∀ (N : Nat) (j acc : Int), (0 ≤ j ∧ j ≤ hi 2 1) → (acc = sm (fun z => if ofP p (bO (hi 2) z) (dO (hi 2) z) then 1 else 0) j.toNat ∧ 0 ≤ acc ∧ acc ≤ j) → (∀ z : Int, 0 ≤ z → z < j → ¬ ((ofP p (bO (hi 2) z) (dO (hi 2) z)) ∧ sm (fun z => if ofP p (bO (hi 2) z) (dO (hi 2) z) then 1 else 0) z.toNat = k)) → ((hi 2 1 - j).toNat) < N → Z kX7_onAt Q 18 [(4, AI j), (3, AI acc), (0, AR 1), (1, AI p), (2, AI k)] [] hi := by
        intro N
        induction N with
        | zero => intro j acc _ _ _ _; exact absurd (by assumption) (Nat.not_lt_zero _)
        | succ N ih18 =>
          intro j acc i0 i1 i2 hm18
          refine z_iload (pc := 18) dX7_onAt_18 0 rfl ?_
          refine z_aload_n (pc := 20) (x := 1) dX7_onAt_20 rfl 2 rfl ?_
          refine z_getR (pc := 21) (pl := 0) (f := 0) (ci := 6) (C := RX7) (T := TX7) (N := 13) hu_X7 (by decide) rfl rfl (by decide) rfl (List.mem_cons_of_mem _ (iw1 _ (List.mem_of_getElem? (i := 16) rfl))) rfl dX7_onAt_21 ?_
          refine z_callV (pc := 24) (kc := kX1_size) (n := 0) (pl := 1) (ci := 1) (C := RX1) (As := []) (stk := [AI j]) ct_X1_size (gdV rfl rfl (iw7 _ (List.mem_of_getElem? (i := 21) rfl)) (iw7 _ (List.mem_of_getElem? (i := 2) rfl)) (iw7 _ (List.mem_of_getElem? (i := 3) rfl)) (iw1 _ (List.mem_of_getElem? (i := 15) rfl)) (iw7 _ (List.mem_of_getElem? (i := 4) rfl))) rfl ⟨rfl, rfl⟩ (by decide +kernel) ⟨by decide, by decide⟩ (by decide) rfl rfl dX7_onAt_24 rfl rfl (Nat.le_of_ble_eq_true rfl) ?_
          refine ⟨rfl, trivial, fun v4 ev4 => ?_⟩
          refine z_icmp_ge (pc := 27) (tgt := 67) dX7_onAt_27 (by decide) ⟨by omega, by omega⟩ ⟨by omega, by omega⟩ (fun c5 => ?_) (fun c5 => ?_)
          · refine z_bipush (pc := 67) (v := (-2)) dX7_onAt_67 (by decide +kernel) ?_
            refine z_iret (pc := 69) rfl dX7_onAt_69 ?_
            exact hQ (-2) (by first | exact Or.inl ⟨rfl, by omega⟩ | exact Or.inr ⟨by omega, -1, Or.inr ⟨rfl, fun z z0 z1 => i2 z z0 (by omega)⟩, by omega⟩ | exact Or.inr ⟨by omega, j, Or.inl ⟨by omega, by omega, ⟨by omega, by rw [← i1.1]; omega⟩, i2⟩, by omega⟩)
          · refine z_aload_n (pc := 30) (x := 1) dX7_onAt_30 rfl 2 rfl ?_
            refine z_getR (pc := 31) (pl := 0) (f := 0) (ci := 6) (C := RX7) (T := TX7) (N := 13) hu_X7 (by decide) rfl rfl (by decide) rfl (List.mem_cons_of_mem _ (iw1 _ (List.mem_of_getElem? (i := 16) rfl))) rfl dX7_onAt_31 ?_
            refine z_iload (pc := 34) dX7_onAt_34 0 rfl ?_
            refine z_iload_n (pc := 36) dX7_onAt_36 rfl 3 rfl ?_
            refine z_callV (pc := 37) (kc := kX1_isCoveredBy) (n := 2) (pl := 1) (ci := 1) (C := RX1) (As := [AI j, AI p]) (stk := []) ct_X1_isCoveredBy (gdV rfl rfl (iw51 _ (List.mem_of_getElem? (i := 3) rfl)) (iw51 _ (List.mem_of_getElem? (i := 4) rfl)) (iw51 _ (List.mem_of_getElem? (i := 5) rfl)) (iw1 _ (List.mem_of_getElem? (i := 15) rfl)) (iw51 _ (List.mem_of_getElem? (i := 6) rfl))) rfl ⟨rfl, rfl⟩ (by decide +kernel) ⟨by decide, by decide⟩ (by decide) rfl rfl dX7_onAt_37 rfl rfl (Nat.le_of_ble_eq_true rfl) ?_
            refine ⟨_, _, rfl, by omega, fun v6 ev6 => ?_⟩
            refine z_if_eq (pc := 40) (tgt := 61) dX7_onAt_40 (by decide) ⟨by omega, by omega⟩ (fun c7 => ?_) (fun c7 => ?_)
            · refine z_iinc (pc := 61) (j := 0) (w := fun q => (4, AI q) :: [(3, AI acc), (0, AR 1), (1, AI p), (2, AI k)]) dX7_onAt_61 rfl (by decide) (fun _ => rfl) (fun v8 ev8 => ?_)
              refine z_goto (pc := 64) (tgt := 18) dX7_onAt_64 (by decide) ?_
              exact ih18 v8 acc (by omega) (⟨sm_step (by omega) (by omega) i1.1 (by first | omega | (split <;> omega)), by omega⟩) (no_step i2 (by rw [← i1.1]; omega) (by omega)) (by omega)
            · refine z_iload_n (pc := 43) dX7_onAt_43 rfl 1 rfl ?_
              refine z_iload_n (pc := 44) dX7_onAt_44 rfl 4 rfl ?_
              refine z_icmp_ne (pc := 45) (tgt := 58) dX7_onAt_45 (by decide) ⟨by omega, by omega⟩ ⟨by omega, by omega⟩ (fun c9 => ?_) (fun c9 => ?_)
              · refine z_iinc (pc := 58) (j := 1) (w := fun q => (3, AI q) :: [(4, AI j), (0, AR 1), (1, AI p), (2, AI k)]) dX7_onAt_58 rfl (by decide) (fun _ => rfl) (fun v10 ev10 => ?_)
                refine z_iinc (pc := 61) (j := 1) (w := fun q => (4, AI q) :: [(3, AI v10), (0, AR 1), (1, AI p), (2, AI k)]) dX7_onAt_61 rfl (by decide) (fun _ => rfl) (fun v11 ev11 => ?_)
                refine z_goto (pc := 64) (tgt := 18) dX7_onAt_64 (by decide) ?_
                exact ih18 v11 v10 (by omega) (⟨sm_step (by omega) (by omega) i1.1 (by first | omega | (split <;> omega)), by omega⟩) (no_step i2 (by rw [← i1.1]; omega) (by omega)) (by omega)
              · refine z_aload_n (pc := 48) (x := 1) dX7_onAt_48 rfl 2 rfl ?_
                refine z_getR (pc := 49) (pl := 0) (f := 0) (ci := 6) (C := RX7) (T := TX7) (N := 13) hu_X7 (by decide) rfl rfl (by decide) rfl (List.mem_cons_of_mem _ (iw1 _ (List.mem_of_getElem? (i := 16) rfl))) rfl dX7_onAt_49 ?_
                refine z_iload (pc := 52) dX7_onAt_52 0 rfl ?_
                refine z_callV (pc := 54) (kc := kX1_numberOf) (n := 1) (pl := 1) (ci := 1) (C := RX1) (As := [AI j]) (stk := []) ct_X1_numberOf (gdV rfl rfl (iw12 _ (List.mem_of_getElem? (i := 7) rfl)) (iw7 _ (List.mem_of_getElem? (i := 6) rfl)) (iw7 _ (List.mem_of_getElem? (i := 7) rfl)) (iw1 _ (List.mem_of_getElem? (i := 15) rfl)) (iw7 _ (List.mem_of_getElem? (i := 8) rfl))) rfl ⟨rfl, rfl⟩ (by decide +kernel) ⟨by decide, by decide⟩ (by decide) rfl rfl dX7_onAt_54 rfl rfl (Nat.le_of_ble_eq_true rfl) ?_
                refine ⟨_, rfl, by omega, fun v12 ev12 => ?_⟩
                refine z_iret (pc := 57) rfl dX7_onAt_57 ?_
                exact hQ v12 (by first | exact Or.inl ⟨rfl, by omega⟩ | exact Or.inr ⟨by omega, -1, Or.inr ⟨rfl, fun z z0 z1 => i2 z z0 (by omega)⟩, by omega⟩ | exact Or.inr ⟨by omega, j, Or.inl ⟨by omega, by omega, ⟨by omega, by rw [← i1.1]; omega⟩, i2⟩, by omega⟩)
      exact J18 _ 0 0 (by omega) (⟨sm_0 rfl rfl, by omega⟩) (no_0 rfl) (Nat.lt_succ_self _)
    · refine z_iconst (pc := 11) (v := (-1)) dX7_onAt_11 rfl ?_
      refine z_iret (pc := 12) rfl dX7_onAt_12 ?_
      exact hQ (-1) (by first | exact Or.inl ⟨rfl, by omega⟩ | exact Or.inr ⟨by omega, -1, Or.inr ⟨rfl, fun z z0 z1 => i2 z z0 (by omega)⟩, by omega⟩ | exact Or.inr ⟨by omega, j, Or.inl ⟨by omega, by omega, ⟨by omega, by rw [← i1.1]; omega⟩, i2⟩, by omega⟩)

abbrev kX7_sum : Kd := (cX7_sum, .code yX7_sum cX7_sum 4 (some .int) :: wsL_law0, rmL 4, RX7, (some .int), 4)
theorem ct_X7_sum : Ct kX7_sum yX7_sum (fun a hi Q => ∃ h : Int, ∃ x : Int, ∃ y : Int, a = [AR 1, AI h, AI x, AI y] ∧ (RI (hi 2) (hi 2 1) ∧ inR h ∧ inR x ∧ inR y) ∧ ∀ v : Int, ((v = -1 ∧ ¬ ((0 ≤ h ∧ h < 64) ∧ (0 ≤ x ∧ x ≤ 999) ∧ (0 ≤ y ∧ y ≤ 999) ∧ x ≤ y)) ∨ (((0 ≤ h ∧ h < 64) ∧ (0 ≤ x ∧ x ≤ 999) ∧ (0 ≤ y ∧ y ≤ 999) ∧ x ≤ y) ∧ v = sm (fun z => if al (hi 2) z h ∧ x ≤ nO (hi 2) z ∧ nO (hi 2) z ≤ y then wO (hi 2) z else 0) (hi 2 1).toNat)) → Q (AI v) hi) := by
  refine Ct.of (ws' := _) (by decide +kernel) rfl rfl ?_
  intro a hi Q hT
  obtain ⟨h, x, y, rfl, hpre, hQ⟩ := hT
  refine ⟨Nat.le_of_ble_eq_true rfl, ?_⟩
  show Z kX7_sum Q 0 [(0, AR 1), (1, AI h), (2, AI x), (3, AI y)] [] hi
  refine z_iload_n (pc := 0) dX7_sum_0 rfl 1 rfl ?_
  refine z_callS (pc := 1) (kc := kX7_isHour) (n := 1) (As := [AI h]) (stk := []) ct_X7_isHour (gdS rfl rfl (iw6 _ (List.mem_of_getElem? (i := 7) rfl)) (iw6 _ (List.mem_of_getElem? (i := 8) rfl)) (iw1 _ (List.mem_of_getElem? (i := 2) rfl)) (iw6 _ (List.mem_of_getElem? (i := 9) rfl))) rfl ⟨rfl, rfl⟩ (by decide +kernel) ⟨by decide, by decide⟩ dX7_sum_1 rfl rfl (Nat.le_of_ble_eq_true rfl) ?_
  refine ⟨_, rfl, by omega, fun v1 ev1 => ?_⟩
  refine z_if_eq (pc := 4) (tgt := 26) dX7_sum_4 (by decide) ⟨by omega, by omega⟩ (fun c2 => ?_) (fun c2 => ?_)
  · refine z_iconst (pc := 26) (v := (-1)) dX7_sum_26 rfl ?_
    refine z_iret (pc := 27) rfl dX7_sum_27 ?_
    exact hQ (-1) (by first | exact Or.inl ⟨rfl, by omega⟩ | exact Or.inr ⟨by omega, by assumption⟩)
  · refine z_iload_n (pc := 7) dX7_sum_7 rfl 2 rfl ?_
    refine z_callS (pc := 8) (kc := kX7_isNumber) (n := 1) (As := [AI x]) (stk := []) ct_X7_isNumber (gdS rfl rfl (iw6 _ (List.mem_of_getElem? (i := 4) rfl)) (iw6 _ (List.mem_of_getElem? (i := 5) rfl)) (iw1 _ (List.mem_of_getElem? (i := 2) rfl)) (iw6 _ (List.mem_of_getElem? (i := 6) rfl))) rfl ⟨rfl, rfl⟩ (by decide +kernel) ⟨by decide, by decide⟩ dX7_sum_8 rfl rfl (Nat.le_of_ble_eq_true rfl) ?_
    refine ⟨_, rfl, by omega, fun v3 ev3 => ?_⟩
    refine z_if_eq (pc := 11) (tgt := 26) dX7_sum_11 (by decide) ⟨by omega, by omega⟩ (fun c4 => ?_) (fun c4 => ?_)
    · refine z_iconst (pc := 26) (v := (-1)) dX7_sum_26 rfl ?_
      refine z_iret (pc := 27) rfl dX7_sum_27 ?_
      exact hQ (-1) (by first | exact Or.inl ⟨rfl, by omega⟩ | exact Or.inr ⟨by omega, by assumption⟩)
    · refine z_iload_n (pc := 14) dX7_sum_14 rfl 3 rfl ?_
      refine z_callS (pc := 15) (kc := kX7_isNumber) (n := 1) (As := [AI y]) (stk := []) ct_X7_isNumber (gdS rfl rfl (iw6 _ (List.mem_of_getElem? (i := 4) rfl)) (iw6 _ (List.mem_of_getElem? (i := 5) rfl)) (iw1 _ (List.mem_of_getElem? (i := 2) rfl)) (iw6 _ (List.mem_of_getElem? (i := 6) rfl))) rfl ⟨rfl, rfl⟩ (by decide +kernel) ⟨by decide, by decide⟩ dX7_sum_15 rfl rfl (Nat.le_of_ble_eq_true rfl) ?_
      refine ⟨_, rfl, by omega, fun v5 ev5 => ?_⟩
      refine z_if_eq (pc := 18) (tgt := 26) dX7_sum_18 (by decide) ⟨by omega, by omega⟩ (fun c6 => ?_) (fun c6 => ?_)
      · refine z_iconst (pc := 26) (v := (-1)) dX7_sum_26 rfl ?_
        refine z_iret (pc := 27) rfl dX7_sum_27 ?_
        exact hQ (-1) (by first | exact Or.inl ⟨rfl, by omega⟩ | exact Or.inr ⟨by omega, by assumption⟩)
      · refine z_iload_n (pc := 21) dX7_sum_21 rfl 3 rfl ?_
        refine z_iload_n (pc := 22) dX7_sum_22 rfl 2 rfl ?_
        refine z_icmp_ge (pc := 23) (tgt := 28) dX7_sum_23 (by decide) ⟨by omega, by omega⟩ ⟨by omega, by omega⟩ (fun c7 => ?_) (fun c7 => ?_)
        · refine z_aload_n (pc := 28) (x := 1) dX7_sum_28 rfl 0 rfl ?_
          refine z_getR (pc := 29) (pl := 0) (f := 0) (ci := 6) (C := RX7) (T := TX7) (N := 13) hu_X7 (by decide) rfl rfl (by decide) rfl (List.mem_cons_of_mem _ (iw1 _ (List.mem_of_getElem? (i := 16) rfl))) rfl dX7_sum_29 ?_
          refine z_iload_n (pc := 32) dX7_sum_32 rfl 1 rfl ?_
          refine z_iload_n (pc := 33) dX7_sum_33 rfl 2 rfl ?_
          refine z_iload_n (pc := 34) dX7_sum_34 rfl 3 rfl ?_
          refine z_callV (pc := 35) (kc := kX1_worthsAt) (n := 3) (pl := 1) (ci := 1) (C := RX1) (As := [AI h, AI x, AI y]) (stk := []) ct_X1_worthsAt (gdV rfl rfl (iw46 _ (List.mem_of_getElem? (i := 22) rfl)) (iw34 _ (List.mem_of_getElem? (i := 19) rfl)) (iw34 _ (List.mem_of_getElem? (i := 20) rfl)) (iw1 _ (List.mem_of_getElem? (i := 15) rfl)) (iw34 _ (List.mem_of_getElem? (i := 21) rfl))) rfl ⟨rfl, rfl⟩ (by decide +kernel) ⟨by decide, by decide⟩ (by decide) rfl rfl dX7_sum_35 rfl rfl (Nat.le_of_ble_eq_true rfl) ?_
          refine ⟨_, _, _, rfl, by have q := hpre.1.1; exact ⟨by omega, by omega, by omega, by omega⟩, fun v8 ev8 => ?_⟩
          refine z_iret (pc := 38) rfl dX7_sum_38 ?_
          exact hQ v8 (by first | exact Or.inl ⟨rfl, by omega⟩ | exact Or.inr ⟨by omega, by assumption⟩)
        · refine z_iconst (pc := 26) (v := (-1)) dX7_sum_26 rfl ?_
          refine z_iret (pc := 27) rfl dX7_sum_27 ?_
          exact hQ (-1) (by first | exact Or.inl ⟨rfl, by omega⟩ | exact Or.inr ⟨by omega, by assumption⟩)

abbrev kX7_gap : Kd := (cX7_gap, .code yX7_gap cX7_gap 7 (some .int) :: wsL_law0, rmL 3, RX7, (some .int), 7)
theorem ct_X7_gap : Ct kX7_gap yX7_gap (fun a hi Q => ∃ h : Int, a = [AR 1, AI h] ∧ (RI (hi 2) (hi 2 1) ∧ inR h) ∧ ∀ v : Int, ((v = -1 ∧ ¬ (0 ≤ h ∧ h < 64)) ∨ ((0 ≤ h ∧ h < 64) ∧ v = (gs (ak (hi 2) h (hi 2 1).toNat) (cA (hi 2) h (hi 2 1).toNat - 1).toNat).1)) → Q (AI v) hi) := by
  refine Ct.of (ws' := _) (by decide +kernel) rfl rfl ?_
  intro a hi Q hT
  obtain ⟨h, rfl, hpre, hQ⟩ := hT
  refine ⟨Nat.le_of_ble_eq_true rfl, ?_⟩
  show Z kX7_gap Q 0 [(0, AR 1), (1, AI h)] [] hi
  refine z_iload_n (pc := 0) dX7_gap_0 rfl 1 rfl ?_
  refine z_callS (pc := 1) (kc := kX7_isHour) (n := 1) (As := [AI h]) (stk := []) ct_X7_isHour (gdS rfl rfl (iw6 _ (List.mem_of_getElem? (i := 7) rfl)) (iw6 _ (List.mem_of_getElem? (i := 8) rfl)) (iw1 _ (List.mem_of_getElem? (i := 2) rfl)) (iw6 _ (List.mem_of_getElem? (i := 9) rfl))) rfl ⟨rfl, rfl⟩ (by decide +kernel) ⟨by decide, by decide⟩ dX7_gap_1 rfl rfl (Nat.le_of_ble_eq_true rfl) ?_
  refine ⟨_, rfl, by omega, fun v1 ev1 => ?_⟩
  refine z_if_ne (pc := 4) (tgt := 9) dX7_gap_4 (by decide) ⟨by omega, by omega⟩ (fun c2 => ?_) (fun c2 => ?_)
  · refine z_bipush (pc := 9) (v := (-2)) dX7_gap_9 (by decide +kernel) ?_
    refine z_istore_n (pc := 11) (lv' := [(2, AI (-2)), (0, AR 1), (1, AI h)]) dX7_gap_11 rfl (by decide) rfl ?_
    refine z_iconst (pc := 12) (v := 0) dX7_gap_12 rfl ?_
    refine z_istore_n (pc := 13) (lv' := [(3, AI 0), (2, AI (-2)), (0, AR 1), (1, AI h)]) dX7_gap_13 rfl (by decide) rfl ?_
    refine z_iconst (pc := 14) (v := (-1)) dX7_gap_14 rfl ?_
    refine z_istore (pc := 15) (lv' := [(4, AI (-1)), (3, AI 0), (2, AI (-2)), (0, AR 1), (1, AI h)]) dX7_gap_15 (by decide) rfl ?_
    refine z_iconst (pc := 17) (v := 0) dX7_gap_17 rfl ?_
    refine z_istore (pc := 18) (lv' := [(5, AI 0), (4, AI (-1)), (3, AI 0), (2, AI (-2)), (0, AR 1), (1, AI h)]) dX7_gap_18 (by decide) rfl ?_
    have h0 := hpre.1.1
    have J20 : ∀ (N : Nat) (k lo wi ne : Int), (0 ≤ k ∧ k ≤ hi 2 1) → (GapI (hi 2) h k lo wi ne) → ((-1 ≤ ne ∧ ne ≤ 999) ∧ 0 ≤ wi ∧ wi ≤ 2000) → ((hi 2 1 - k).toNat) < N → Z kX7_gap Q 20 [(5, AI k), (4, AI ne), (3, AI wi), (2, AI lo), (0, AR 1), (1, AI h)] [] hi := by
      intro N
      induction N with
      | zero => intro k lo wi ne _ _ _ _; exact absurd (by assumption) (Nat.not_lt_zero _)
      | succ N ih20 =>
        intro k lo wi ne i0 i1 i2 hm20
        refine z_iload (pc := 20) dX7_gap_20 0 rfl ?_
        refine z_aload_n (pc := 22) (x := 1) dX7_gap_22 rfl 4 rfl ?_
        refine z_getR (pc := 23) (pl := 0) (f := 0) (ci := 6) (C := RX7) (T := TX7) (N := 13) hu_X7 (by decide) rfl rfl (by decide) rfl (List.mem_cons_of_mem _ (iw1 _ (List.mem_of_getElem? (i := 16) rfl))) rfl dX7_gap_23 ?_
        refine z_callV (pc := 26) (kc := kX1_size) (n := 0) (pl := 1) (ci := 1) (C := RX1) (As := []) (stk := [AI k]) ct_X1_size (gdV rfl rfl (iw7 _ (List.mem_of_getElem? (i := 21) rfl)) (iw7 _ (List.mem_of_getElem? (i := 2) rfl)) (iw7 _ (List.mem_of_getElem? (i := 3) rfl)) (iw1 _ (List.mem_of_getElem? (i := 15) rfl)) (iw7 _ (List.mem_of_getElem? (i := 4) rfl))) rfl ⟨rfl, rfl⟩ (by decide +kernel) ⟨by decide, by decide⟩ (by decide) rfl rfl dX7_gap_26 rfl rfl (Nat.le_of_ble_eq_true rfl) ?_
        refine ⟨rfl, trivial, fun v3 ev3 => ?_⟩
        refine z_icmp_ge (pc := 29) (tgt := 90) dX7_gap_29 (by decide) ⟨by omega, by omega⟩ ⟨by omega, by omega⟩ (fun c4 => ?_) (fun c4 => ?_)
        · refine z_iload_n (pc := 90) dX7_gap_90 rfl 3 rfl ?_
          refine z_iret (pc := 91) rfl dX7_gap_91 ?_
          exact hQ lo (by first | exact Or.inl ⟨rfl, by omega⟩ | exact Or.inr ⟨by omega, by rw [show hi 2 1 = k by omega]; exact gap_end i1⟩)
        · refine z_aload_n (pc := 32) (x := 1) dX7_gap_32 rfl 4 rfl ?_
          refine z_getR (pc := 33) (pl := 0) (f := 0) (ci := 6) (C := RX7) (T := TX7) (N := 13) hu_X7 (by decide) rfl rfl (by decide) rfl (List.mem_cons_of_mem _ (iw1 _ (List.mem_of_getElem? (i := 16) rfl))) rfl dX7_gap_33 ?_
          refine z_iload (pc := 36) dX7_gap_36 0 rfl ?_
          refine z_iload_n (pc := 38) dX7_gap_38 rfl 5 rfl ?_
          refine z_callV (pc := 39) (kc := kX1_isAlive) (n := 2) (pl := 1) (ci := 1) (C := RX1) (As := [AI k, AI h]) (stk := []) ct_X1_isAlive (gdV rfl rfl (iw46 _ (List.mem_of_getElem? (i := 1) rfl)) (iw11 _ (List.mem_of_getElem? (i := 23) rfl)) (iw12 _ (List.mem_of_getElem? (i := 0) rfl)) (iw1 _ (List.mem_of_getElem? (i := 15) rfl)) (iw12 _ (List.mem_of_getElem? (i := 1) rfl))) rfl ⟨rfl, rfl⟩ (by decide +kernel) ⟨by decide, by decide⟩ (by decide) rfl rfl dX7_gap_39 rfl rfl (Nat.le_of_ble_eq_true rfl) ?_
          refine ⟨_, _, rfl, by omega, fun v5 ev5 => ?_⟩
          refine z_if_eq (pc := 42) (tgt := 84) dX7_gap_42 (by decide) ⟨by omega, by omega⟩ (fun c6 => ?_) (fun c6 => ?_)
          · refine z_iinc (pc := 84) (j := 0) (w := fun q => (5, AI q) :: [(4, AI ne), (3, AI wi), (2, AI lo), (0, AR 1), (1, AI h)]) dX7_gap_84 rfl (by decide) (fun _ => rfl) (fun v7 ev7 => ?_)
            refine z_goto (pc := 87) (tgt := 20) dX7_gap_87 (by decide) ?_
            exact ih20 v7 lo wi ne (by omega) (by first | exact gap_skip (by omega) (by omega) i1 (by omega) | exact gap_new (by omega) (by omega) i1 (by omega) (by omega) qk.1.1 (by omega) (by omega) (fun z z0 z1 => (hpre.1.2.1 z z0 (by omega)).1.1)) (by omega) (by omega)
          · refine z_aload_n (pc := 45) (x := 1) dX7_gap_45 rfl 4 rfl ?_
            refine z_getR (pc := 46) (pl := 0) (f := 0) (ci := 6) (C := RX7) (T := TX7) (N := 13) hu_X7 (by decide) rfl rfl (by decide) rfl (List.mem_cons_of_mem _ (iw1 _ (List.mem_of_getElem? (i := 16) rfl))) rfl dX7_gap_46 ?_
            refine z_iload (pc := 49) dX7_gap_49 0 rfl ?_
            refine z_callV (pc := 51) (kc := kX1_numberOf) (n := 1) (pl := 1) (ci := 1) (C := RX1) (As := [AI k]) (stk := []) ct_X1_numberOf (gdV rfl rfl (iw12 _ (List.mem_of_getElem? (i := 7) rfl)) (iw7 _ (List.mem_of_getElem? (i := 6) rfl)) (iw7 _ (List.mem_of_getElem? (i := 7) rfl)) (iw1 _ (List.mem_of_getElem? (i := 15) rfl)) (iw7 _ (List.mem_of_getElem? (i := 8) rfl))) rfl ⟨rfl, rfl⟩ (by decide +kernel) ⟨by decide, by decide⟩ (by decide) rfl rfl dX7_gap_51 rfl rfl (Nat.le_of_ble_eq_true rfl) ?_
            refine ⟨_, rfl, by omega, fun v8 ev8 => ?_⟩
            have qk := hpre.1.2.1 k (by omega) (by omega)
            refine z_istore (pc := 54) (lv' := [(6, AI v8), (5, AI k), (4, AI ne), (3, AI wi), (2, AI lo), (0, AR 1), (1, AI h)]) dX7_gap_54 (by decide) rfl ?_
            refine z_iload (pc := 56) dX7_gap_56 2 rfl ?_
            refine z_iconst (pc := 58) (v := (-1)) dX7_gap_58 rfl ?_
            refine z_icmp_eq (pc := 59) (tgt := 80) dX7_gap_59 (by decide) ⟨by omega, by omega⟩ ⟨by decide, by decide⟩ (fun c9 => ?_) (fun c9 => ?_)
            · refine z_iload (pc := 80) dX7_gap_80 0 rfl ?_
              refine z_istore (pc := 82) (lv' := [(4, AI v8), (6, AI v8), (5, AI k), (3, AI wi), (2, AI lo), (0, AR 1), (1, AI h)]) dX7_gap_82 (by decide) rfl ?_
              refine z_iinc (pc := 84) (j := 2) (w := fun q => (5, AI q) :: [(4, AI v8), (6, AI v8), (3, AI wi), (2, AI lo), (0, AR 1), (1, AI h)]) dX7_gap_84 rfl (by decide) (fun _ => rfl) (fun v10 ev10 => ?_)
              refine z_goto (pc := 87) (tgt := 20) dX7_gap_87 (by decide) ?_
              refine z_sub (lv' := [(5, AI v10), (4, AI v8), (3, AI wi), (2, AI lo), (0, AR 1), (1, AI h)]) [0, 1, 3, 4, 5, 6] rfl ?_
              exact ih20 v10 lo wi v8 (by omega) (by first | exact gap_skip (by omega) (by omega) i1 (by omega) | exact gap_new (by omega) (by omega) i1 (by omega) (by omega) qk.1.1 (by omega) (by omega) (fun z z0 z1 => (hpre.1.2.1 z z0 (by omega)).1.1)) (by omega) (by omega)
            · refine z_iload (pc := 62) dX7_gap_62 0 rfl ?_
              refine z_iload (pc := 64) dX7_gap_64 2 rfl ?_
              refine z_isub (pc := 66) dX7_gap_66 (fun v11 ev11 => ?_)
              refine z_iload_n (pc := 67) dX7_gap_67 rfl 3 rfl ?_
              refine z_icmp_le (pc := 68) (tgt := 80) dX7_gap_68 (by decide) ⟨by omega, by omega⟩ ⟨by omega, by omega⟩ (fun c12 => ?_) (fun c12 => ?_)
              · refine z_iload (pc := 80) dX7_gap_80 0 rfl ?_
                refine z_istore (pc := 82) (lv' := [(4, AI v8), (6, AI v8), (5, AI k), (3, AI wi), (2, AI lo), (0, AR 1), (1, AI h)]) dX7_gap_82 (by decide) rfl ?_
                refine z_iinc (pc := 84) (j := 2) (w := fun q => (5, AI q) :: [(4, AI v8), (6, AI v8), (3, AI wi), (2, AI lo), (0, AR 1), (1, AI h)]) dX7_gap_84 rfl (by decide) (fun _ => rfl) (fun v13 ev13 => ?_)
                refine z_goto (pc := 87) (tgt := 20) dX7_gap_87 (by decide) ?_
                refine z_sub (lv' := [(5, AI v13), (4, AI v8), (3, AI wi), (2, AI lo), (0, AR 1), (1, AI h)]) [0, 1, 3, 4, 5, 6] rfl ?_
                exact ih20 v13 lo wi v8 (by omega) (by first | exact gap_skip (by omega) (by omega) i1 (by omega) | exact gap_new (by omega) (by omega) i1 (by omega) (by omega) qk.1.1 (by omega) (by omega) (fun z z0 z1 => (hpre.1.2.1 z z0 (by omega)).1.1)) (by omega) (by omega)
              · refine z_iload (pc := 71) dX7_gap_71 0 rfl ?_
                refine z_iload (pc := 73) dX7_gap_73 2 rfl ?_
                refine z_isub (pc := 75) dX7_gap_75 (fun v14 ev14 => ?_)
                refine z_istore_n (pc := 76) (lv' := [(3, AI v14), (6, AI v8), (5, AI k), (4, AI ne), (2, AI lo), (0, AR 1), (1, AI h)]) dX7_gap_76 rfl (by decide) rfl ?_
                refine z_iload (pc := 77) dX7_gap_77 3 rfl ?_
                refine z_istore_n (pc := 79) (lv' := [(2, AI ne), (3, AI v14), (6, AI v8), (5, AI k), (4, AI ne), (0, AR 1), (1, AI h)]) dX7_gap_79 rfl (by decide) rfl ?_
                refine z_iload (pc := 80) dX7_gap_80 2 rfl ?_
                refine z_istore (pc := 82) (lv' := [(4, AI v8), (2, AI ne), (3, AI v14), (6, AI v8), (5, AI k), (0, AR 1), (1, AI h)]) dX7_gap_82 (by decide) rfl ?_
                refine z_iinc (pc := 84) (j := 4) (w := fun q => (5, AI q) :: [(4, AI v8), (2, AI ne), (3, AI v14), (6, AI v8), (0, AR 1), (1, AI h)]) dX7_gap_84 rfl (by decide) (fun _ => rfl) (fun v15 ev15 => ?_)
                refine z_goto (pc := 87) (tgt := 20) dX7_gap_87 (by decide) ?_
                refine z_sub (lv' := [(5, AI v15), (4, AI v8), (3, AI v14), (2, AI ne), (0, AR 1), (1, AI h)]) [0, 1, 3, 2, 5, 6] rfl ?_
                exact ih20 v15 ne v14 v8 (by omega) (by first | exact gap_skip (by omega) (by omega) i1 (by omega) | exact gap_new (by omega) (by omega) i1 (by omega) (by omega) qk.1.1 (by omega) (by omega) (fun z z0 z1 => (hpre.1.2.1 z z0 (by omega)).1.1)) (by omega) (by omega)
    exact J20 _ 0 (-2) 0 (-1) (by omega) (Or.inl ⟨rfl, rfl, rfl, rfl⟩) (by omega) (Nat.lt_succ_self _)
  · refine z_iconst (pc := 7) (v := (-1)) dX7_gap_7 rfl ?_
    refine z_iret (pc := 8) rfl dX7_gap_8 ?_
    exact hQ (-1) (by first | exact Or.inl ⟨rfl, by omega⟩ | exact Or.inr ⟨by omega, by rw [show hi 2 1 = k by omega]; exact gap_end i1⟩)

abbrev kX7_always : Kd := (cX7_always, .code yX7_always cX7_always 8 (some .int) :: wsL_law0, rmL 3, RX7, (some .int), 8)
theorem ct_X7_always : Ct kX7_always yX7_always (fun a hi Q => ∃ x : Int, ∃ c : Int, ∃ b : Int, a = [AR 1, AI x, AI c, AI b] ∧ (RI (hi 2) (hi 2 1) ∧ inR x ∧ inR c ∧ inR b) ∧ ∀ v : Int, ((v = -1 ∧ ¬ ((0 ≤ x ∧ x ≤ 999) ∧ (0 ≤ c ∧ c < 64) ∧ (0 ≤ b ∧ b < 64) ∧ c ≤ b)) ∨ (((0 ≤ x ∧ x ≤ 999) ∧ (0 ≤ c ∧ c < 64) ∧ (0 ≤ b ∧ b < 64) ∧ c ≤ b) ∧ ∃ k : Int, Fst (fun z => x ≤ nO (hi 2) z ∧ AllH (hi 2) (hi 2 1) (nO (hi 2) z) c b) (hi 2 1) k ∧ ((k < 0 ∧ v = -2) ∨ (0 ≤ k ∧ v = nO (hi 2) k)))) → Q (AI v) hi) := by
  refine Ct.of (ws' := _) (by decide +kernel) rfl rfl ?_
  intro a hi Q hT
  obtain ⟨x, c, b, rfl, hpre, hQ⟩ := hT
  refine ⟨Nat.le_of_ble_eq_true rfl, ?_⟩
  show Z kX7_always Q 0 [(0, AR 1), (1, AI x), (2, AI c), (3, AI b)] [] hi
  refine z_iload_n (pc := 0) dX7_always_0 rfl 1 rfl ?_
  refine z_callS (pc := 1) (kc := kX7_isNumber) (n := 1) (As := [AI x]) (stk := []) ct_X7_isNumber (gdS rfl rfl (iw6 _ (List.mem_of_getElem? (i := 4) rfl)) (iw6 _ (List.mem_of_getElem? (i := 5) rfl)) (iw1 _ (List.mem_of_getElem? (i := 2) rfl)) (iw6 _ (List.mem_of_getElem? (i := 6) rfl))) rfl ⟨rfl, rfl⟩ (by decide +kernel) ⟨by decide, by decide⟩ dX7_always_1 rfl rfl (Nat.le_of_ble_eq_true rfl) ?_
  refine ⟨_, rfl, by omega, fun v1 ev1 => ?_⟩
  refine z_if_eq (pc := 4) (tgt := 26) dX7_always_4 (by decide) ⟨by omega, by omega⟩ (fun c2 => ?_) (fun c2 => ?_)
  · refine z_iconst (pc := 26) (v := (-1)) dX7_always_26 rfl ?_
    refine z_iret (pc := 27) rfl dX7_always_27 ?_
    exact hQ (-1) (by first | exact Or.inl ⟨rfl, by omega⟩ | exact Or.inr ⟨by omega, -1, Or.inr ⟨rfl, fun z z0 z1 => i1 z z0 (by omega)⟩, by omega⟩ | exact Or.inr ⟨by omega, k, Or.inl ⟨by omega, by omega, ⟨by omega, q81.mpr (by omega)⟩, i1⟩, by omega⟩)
  · refine z_iload_n (pc := 7) dX7_always_7 rfl 2 rfl ?_
    refine z_callS (pc := 8) (kc := kX7_isHour) (n := 1) (As := [AI c]) (stk := []) ct_X7_isHour (gdS rfl rfl (iw6 _ (List.mem_of_getElem? (i := 7) rfl)) (iw6 _ (List.mem_of_getElem? (i := 8) rfl)) (iw1 _ (List.mem_of_getElem? (i := 2) rfl)) (iw6 _ (List.mem_of_getElem? (i := 9) rfl))) rfl ⟨rfl, rfl⟩ (by decide +kernel) ⟨by decide, by decide⟩ dX7_always_8 rfl rfl (Nat.le_of_ble_eq_true rfl) ?_
    refine ⟨_, rfl, by omega, fun v3 ev3 => ?_⟩
    refine z_if_eq (pc := 11) (tgt := 26) dX7_always_11 (by decide) ⟨by omega, by omega⟩ (fun c4 => ?_) (fun c4 => ?_)
    · refine z_iconst (pc := 26) (v := (-1)) dX7_always_26 rfl ?_
      refine z_iret (pc := 27) rfl dX7_always_27 ?_
      exact hQ (-1) (by first | exact Or.inl ⟨rfl, by omega⟩ | exact Or.inr ⟨by omega, -1, Or.inr ⟨rfl, fun z z0 z1 => i1 z z0 (by omega)⟩, by omega⟩ | exact Or.inr ⟨by omega, k, Or.inl ⟨by omega, by omega, ⟨by omega, q81.mpr (by omega)⟩, i1⟩, by omega⟩)
    · refine z_iload_n (pc := 14) dX7_always_14 rfl 3 rfl ?_
      refine z_callS (pc := 15) (kc := kX7_isHour) (n := 1) (As := [AI b]) (stk := []) ct_X7_isHour (gdS rfl rfl (iw6 _ (List.mem_of_getElem? (i := 7) rfl)) (iw6 _ (List.mem_of_getElem? (i := 8) rfl)) (iw1 _ (List.mem_of_getElem? (i := 2) rfl)) (iw6 _ (List.mem_of_getElem? (i := 9) rfl))) rfl ⟨rfl, rfl⟩ (by decide +kernel) ⟨by decide, by decide⟩ dX7_always_15 rfl rfl (Nat.le_of_ble_eq_true rfl) ?_
      refine ⟨_, rfl, by omega, fun v5 ev5 => ?_⟩
      refine z_if_eq (pc := 18) (tgt := 26) dX7_always_18 (by decide) ⟨by omega, by omega⟩ (fun c6 => ?_) (fun c6 => ?_)
      · refine z_iconst (pc := 26) (v := (-1)) dX7_always_26 rfl ?_
        refine z_iret (pc := 27) rfl dX7_always_27 ?_
        exact hQ (-1) (by first | exact Or.inl ⟨rfl, by omega⟩ | exact Or.inr ⟨by omega, -1, Or.inr ⟨rfl, fun z z0 z1 => i1 z z0 (by omega)⟩, by omega⟩ | exact Or.inr ⟨by omega, k, Or.inl ⟨by omega, by omega, ⟨by omega, q81.mpr (by omega)⟩, i1⟩, by omega⟩)
      · refine z_iload_n (pc := 21) dX7_always_21 rfl 3 rfl ?_
        refine z_iload_n (pc := 22) dX7_always_22 rfl 2 rfl ?_
        refine z_icmp_ge (pc := 23) (tgt := 28) dX7_always_23 (by decide) ⟨by omega, by omega⟩ ⟨by omega, by omega⟩ (fun c7 => ?_) (fun c7 => ?_)
        · refine z_iload_n (pc := 28) dX7_always_28 rfl 2 rfl ?_
          refine z_iload_n (pc := 29) dX7_always_29 rfl 3 rfl ?_
          refine z_iconst (pc := 30) (v := 1) dX7_always_30 rfl ?_
          refine z_iadd (pc := 31) dX7_always_31 (fun v8 ev8 => ?_)
          refine z_callS (pc := 32) (kc := kX7_hoursFrom) (n := 2) (As := [AI c, AI v8]) (stk := []) ct_X7_hoursFrom (gdS rfl rfl (iw6 _ (List.mem_of_getElem? (i := 17) rfl)) (iw6 _ (List.mem_of_getElem? (i := 18) rfl)) (iw1 _ (List.mem_of_getElem? (i := 2) rfl)) (iw6 _ (List.mem_of_getElem? (i := 19) rfl))) rfl ⟨rfl, rfl⟩ (by decide +kernel) ⟨by decide, by decide⟩ dX7_always_32 rfl rfl (Nat.le_of_ble_eq_true rfl) ?_
          refine ⟨_, _, rfl, by omega, fun v9 ev9 => ?_⟩
          have w32 := ev9
          refine z_lstore (pc := 35) (lv' := [(4, AL v9), (0, AR 1), (1, AI x), (2, AI c), (3, AI b)]) dX7_always_35 (by decide) rfl ?_
          refine z_iconst (pc := 37) (v := 0) dX7_always_37 rfl ?_
          refine z_istore (pc := 38) (lv' := [(6, AI 0), (4, AL v9), (0, AR 1), (1, AI x), (2, AI c), (3, AI b)]) dX7_always_38 (by decide) rfl ?_
          have h0 := hpre.1.1
          have J40 : ∀ (N : Nat) (k : Int), (0 ≤ k ∧ k ≤ hi 2 1) → (∀ z : Int, 0 ≤ z → z < k → ¬ (x ≤ nO (hi 2) z ∧ AllH (hi 2) (hi 2 1) (nO (hi 2) z) c b)) → ((hi 2 1 - k).toNat) < N → Z kX7_always Q 40 [(6, AI k), (4, AL v9), (0, AR 1), (1, AI x), (2, AI c), (3, AI b)] [] hi := by
            intro N
            induction N with
            | zero => intro k _ _ _; exact absurd (by assumption) (Nat.not_lt_zero _)
            | succ N ih40 =>
              intro k i0 i1 hm40
              refine z_iload (pc := 40) dX7_always_40 0 rfl ?_
              refine z_aload_n (pc := 42) (x := 1) dX7_always_42 rfl 2 rfl ?_
              refine z_getR (pc := 43) (pl := 0) (f := 0) (ci := 6) (C := RX7) (T := TX7) (N := 13) hu_X7 (by decide) rfl rfl (by decide) rfl (List.mem_cons_of_mem _ (iw1 _ (List.mem_of_getElem? (i := 16) rfl))) rfl dX7_always_43 ?_
              refine z_callV (pc := 46) (kc := kX1_size) (n := 0) (pl := 1) (ci := 1) (C := RX1) (As := []) (stk := [AI k]) ct_X1_size (gdV rfl rfl (iw7 _ (List.mem_of_getElem? (i := 21) rfl)) (iw7 _ (List.mem_of_getElem? (i := 2) rfl)) (iw7 _ (List.mem_of_getElem? (i := 3) rfl)) (iw1 _ (List.mem_of_getElem? (i := 15) rfl)) (iw7 _ (List.mem_of_getElem? (i := 4) rfl))) rfl ⟨rfl, rfl⟩ (by decide +kernel) ⟨by decide, by decide⟩ (by decide) rfl rfl dX7_always_46 rfl rfl (Nat.le_of_ble_eq_true rfl) ?_
              refine ⟨rfl, trivial, fun v10 ev10 => ?_⟩
              refine z_icmp_ge (pc := 49) (tgt := 97) dX7_always_49 (by decide) ⟨by omega, by omega⟩ ⟨by omega, by omega⟩ (fun c11 => ?_) (fun c11 => ?_)
              · refine z_bipush (pc := 97) (v := (-2)) dX7_always_97 (by decide +kernel) ?_
                refine z_iret (pc := 99) rfl dX7_always_99 ?_
                exact hQ (-2) (by first | exact Or.inl ⟨rfl, by omega⟩ | exact Or.inr ⟨by omega, -1, Or.inr ⟨rfl, fun z z0 z1 => i1 z z0 (by omega)⟩, by omega⟩ | exact Or.inr ⟨by omega, k, Or.inl ⟨by omega, by omega, ⟨by omega, q81.mpr (by omega)⟩, i1⟩, by omega⟩)
              · refine z_aload_n (pc := 52) (x := 1) dX7_always_52 rfl 2 rfl ?_
                refine z_getR (pc := 53) (pl := 0) (f := 0) (ci := 6) (C := RX7) (T := TX7) (N := 13) hu_X7 (by decide) rfl rfl (by decide) rfl (List.mem_cons_of_mem _ (iw1 _ (List.mem_of_getElem? (i := 16) rfl))) rfl dX7_always_53 ?_
                refine z_iload (pc := 56) dX7_always_56 0 rfl ?_
                refine z_callV (pc := 58) (kc := kX1_numberOf) (n := 1) (pl := 1) (ci := 1) (C := RX1) (As := [AI k]) (stk := []) ct_X1_numberOf (gdV rfl rfl (iw12 _ (List.mem_of_getElem? (i := 7) rfl)) (iw7 _ (List.mem_of_getElem? (i := 6) rfl)) (iw7 _ (List.mem_of_getElem? (i := 7) rfl)) (iw1 _ (List.mem_of_getElem? (i := 15) rfl)) (iw7 _ (List.mem_of_getElem? (i := 8) rfl))) rfl ⟨rfl, rfl⟩ (by decide +kernel) ⟨by decide, by decide⟩ (by decide) rfl rfl dX7_always_58 rfl rfl (Nat.le_of_ble_eq_true rfl) ?_
                refine ⟨_, rfl, by omega, fun v12 ev12 => ?_⟩
                refine z_istore (pc := 61) (lv' := [(7, AI v12), (6, AI k), (4, AL v9), (0, AR 1), (1, AI x), (2, AI c), (3, AI b)]) dX7_always_61 (by decide) rfl ?_
                refine z_iload (pc := 63) dX7_always_63 0 rfl ?_
                refine z_iload_n (pc := 65) dX7_always_65 rfl 4 rfl ?_
                refine z_icmp_lt (pc := 66) (tgt := 91) dX7_always_66 (by decide) ⟨by omega, by omega⟩ ⟨by omega, by omega⟩ (fun c13 => ?_) (fun c13 => ?_)
                · refine z_iinc (pc := 91) (j := 1) (w := fun q => (6, AI q) :: [(7, AI v12), (4, AL v9), (0, AR 1), (1, AI x), (2, AI c), (3, AI b)]) dX7_always_91 rfl (by decide) (fun _ => rfl) (fun v14 ev14 => ?_)
                  refine z_goto (pc := 94) (tgt := 40) dX7_always_94 (by decide) ?_
                  refine z_sub (lv' := [(6, AI v14), (4, AL v9), (0, AR 1), (1, AI x), (2, AI c), (3, AI b)]) [0, 2, 3, 4, 5, 6] rfl ?_
                  exact ih40 v14 (by omega) (no_step i1 (by first | omega | (intro z; have z2 := q81.mp z.2; omega)) (by omega)) (by omega)
                · refine z_aload_n (pc := 69) (x := 1) dX7_always_69 rfl 3 rfl ?_
                  refine z_getR (pc := 70) (pl := 0) (f := 0) (ci := 6) (C := RX7) (T := TX7) (N := 13) hu_X7 (by decide) rfl rfl (by decide) rfl (List.mem_cons_of_mem _ (iw1 _ (List.mem_of_getElem? (i := 16) rfl))) rfl dX7_always_70 ?_
                  refine z_iload (pc := 73) dX7_always_73 0 rfl ?_
                  refine z_iconst (pc := 75) (v := (-1)) dX7_always_75 rfl ?_
                  refine z_callV (pc := 76) (kc := kX1_hoursOf) (n := 2) (pl := 1) (ci := 1) (C := RX1) (As := [AI v12, AI (-1)]) (stk := []) ct_X1_hoursOf (gdV rfl rfl (iw6 _ (List.mem_of_getElem? (i := 21) rfl)) (iw6 _ (List.mem_of_getElem? (i := 22) rfl)) (iw6 _ (List.mem_of_getElem? (i := 23) rfl)) (iw1 _ (List.mem_of_getElem? (i := 15) rfl)) (iw7 _ (List.mem_of_getElem? (i := 0) rfl))) rfl ⟨rfl, rfl⟩ (by decide +kernel) ⟨by decide, by decide⟩ (by decide) rfl rfl dX7_always_76 rfl rfl (Nat.le_of_ble_eq_true rfl) ?_
                  refine ⟨_, _, rfl, ⟨hpre.1, by omega, ⟨by decide, by decide⟩⟩, fun v15 ev15 => ?_⟩
                  have w76 := ev15.2
                  rw [show v12 = nO (hi 2) k by omega] at w76
                  refine z_lload (pc := 79) dX7_always_79 2 rfl ?_
                  refine z_land (pc := 81) dX7_always_81 (fun v16 ev16 => ?_)
                  have bv16 := toL_inL ev16
                  have q81 := all_iff (b := b) (by omega) (by omega) (by omega) w32 w76 ev16
                  refine z_lload (pc := 82) dX7_always_82 2 rfl ?_
                  refine z_lcmp (pc := 84) dX7_always_84 ⟨by omega, by omega⟩ ⟨by omega, by omega⟩ (fun v17 ev17 => ?_)
                  refine z_if_ne (pc := 85) (tgt := 91) dX7_always_85 (by decide) ⟨by omega, by omega⟩ (fun c18 => ?_) (fun c18 => ?_)
                  · refine z_iinc (pc := 91) (j := 1) (w := fun q => (6, AI q) :: [(7, AI v12), (4, AL v9), (0, AR 1), (1, AI x), (2, AI c), (3, AI b)]) dX7_always_91 rfl (by decide) (fun _ => rfl) (fun v19 ev19 => ?_)
                    refine z_goto (pc := 94) (tgt := 40) dX7_always_94 (by decide) ?_
                    refine z_sub (lv' := [(6, AI v19), (4, AL v9), (0, AR 1), (1, AI x), (2, AI c), (3, AI b)]) [0, 2, 3, 4, 5, 6] rfl ?_
                    exact ih40 v19 (by omega) (no_step i1 (by first | omega | (intro z; have z2 := q81.mp z.2; omega)) (by omega)) (by omega)
                  · refine z_iload (pc := 88) dX7_always_88 0 rfl ?_
                    refine z_iret (pc := 90) rfl dX7_always_90 ?_
                    exact hQ v12 (by first | exact Or.inl ⟨rfl, by omega⟩ | exact Or.inr ⟨by omega, -1, Or.inr ⟨rfl, fun z z0 z1 => i1 z z0 (by omega)⟩, by omega⟩ | exact Or.inr ⟨by omega, k, Or.inl ⟨by omega, by omega, ⟨by omega, q81.mpr (by omega)⟩, i1⟩, by omega⟩)
          exact J40 _ 0 (by omega) (no_0 rfl) (Nat.lt_succ_self _)
        · refine z_iconst (pc := 26) (v := (-1)) dX7_always_26 rfl ?_
          refine z_iret (pc := 27) rfl dX7_always_27 ?_
          exact hQ (-1) (by first | exact Or.inl ⟨rfl, by omega⟩ | exact Or.inr ⟨by omega, -1, Or.inr ⟨rfl, fun z z0 z1 => i1 z z0 (by omega)⟩, by omega⟩ | exact Or.inr ⟨by omega, k, Or.inl ⟨by omega, by omega, ⟨by omega, q81.mpr (by omega)⟩, i1⟩, by omega⟩)

abbrev kX7_ever : Kd := (cX7_ever, .code yX7_ever cX7_ever 8 (some .int) :: wsL_law0, rmL 3, RX7, (some .int), 8)
theorem ct_X7_ever : Ct kX7_ever yX7_ever (fun a hi Q => ∃ x : Int, ∃ c : Int, ∃ b : Int, a = [AR 1, AI x, AI c, AI b] ∧ (RI (hi 2) (hi 2 1) ∧ inR x ∧ inR c ∧ inR b) ∧ ∀ v : Int, ((v = -1 ∧ ¬ ((0 ≤ x ∧ x ≤ 999) ∧ (0 ≤ c ∧ c < 64) ∧ (0 ≤ b ∧ b < 64) ∧ c ≤ b)) ∨ (((0 ≤ x ∧ x ≤ 999) ∧ (0 ≤ c ∧ c < 64) ∧ (0 ≤ b ∧ b < 64) ∧ c ≤ b) ∧ ∃ k : Int, Fst (fun z => x ≤ nO (hi 2) z ∧ SomeH (hi 2) (hi 2 1) (nO (hi 2) z) c b) (hi 2 1) k ∧ ((k < 0 ∧ v = -2) ∨ (0 ≤ k ∧ v = nO (hi 2) k)))) → Q (AI v) hi) := by
  refine Ct.of (ws' := _) (by decide +kernel) rfl rfl ?_
  intro a hi Q hT
  obtain ⟨x, c, b, rfl, hpre, hQ⟩ := hT
  refine ⟨Nat.le_of_ble_eq_true rfl, ?_⟩
  show Z kX7_ever Q 0 [(0, AR 1), (1, AI x), (2, AI c), (3, AI b)] [] hi
  refine z_iload_n (pc := 0) dX7_ever_0 rfl 1 rfl ?_
  refine z_callS (pc := 1) (kc := kX7_isNumber) (n := 1) (As := [AI x]) (stk := []) ct_X7_isNumber (gdS rfl rfl (iw6 _ (List.mem_of_getElem? (i := 4) rfl)) (iw6 _ (List.mem_of_getElem? (i := 5) rfl)) (iw1 _ (List.mem_of_getElem? (i := 2) rfl)) (iw6 _ (List.mem_of_getElem? (i := 6) rfl))) rfl ⟨rfl, rfl⟩ (by decide +kernel) ⟨by decide, by decide⟩ dX7_ever_1 rfl rfl (Nat.le_of_ble_eq_true rfl) ?_
  refine ⟨_, rfl, by omega, fun v1 ev1 => ?_⟩
  refine z_if_eq (pc := 4) (tgt := 26) dX7_ever_4 (by decide) ⟨by omega, by omega⟩ (fun c2 => ?_) (fun c2 => ?_)
  · refine z_iconst (pc := 26) (v := (-1)) dX7_ever_26 rfl ?_
    refine z_iret (pc := 27) rfl dX7_ever_27 ?_
    exact hQ (-1) (by first | exact Or.inl ⟨rfl, by omega⟩ | exact Or.inr ⟨by omega, -1, Or.inr ⟨rfl, fun z z0 z1 => i1 z z0 (by omega)⟩, by omega⟩ | exact Or.inr ⟨by omega, k, Or.inl ⟨by omega, by omega, ⟨by omega, q81.mpr (by omega)⟩, i1⟩, by omega⟩)
  · refine z_iload_n (pc := 7) dX7_ever_7 rfl 2 rfl ?_
    refine z_callS (pc := 8) (kc := kX7_isHour) (n := 1) (As := [AI c]) (stk := []) ct_X7_isHour (gdS rfl rfl (iw6 _ (List.mem_of_getElem? (i := 7) rfl)) (iw6 _ (List.mem_of_getElem? (i := 8) rfl)) (iw1 _ (List.mem_of_getElem? (i := 2) rfl)) (iw6 _ (List.mem_of_getElem? (i := 9) rfl))) rfl ⟨rfl, rfl⟩ (by decide +kernel) ⟨by decide, by decide⟩ dX7_ever_8 rfl rfl (Nat.le_of_ble_eq_true rfl) ?_
    refine ⟨_, rfl, by omega, fun v3 ev3 => ?_⟩
    refine z_if_eq (pc := 11) (tgt := 26) dX7_ever_11 (by decide) ⟨by omega, by omega⟩ (fun c4 => ?_) (fun c4 => ?_)
    · refine z_iconst (pc := 26) (v := (-1)) dX7_ever_26 rfl ?_
      refine z_iret (pc := 27) rfl dX7_ever_27 ?_
      exact hQ (-1) (by first | exact Or.inl ⟨rfl, by omega⟩ | exact Or.inr ⟨by omega, -1, Or.inr ⟨rfl, fun z z0 z1 => i1 z z0 (by omega)⟩, by omega⟩ | exact Or.inr ⟨by omega, k, Or.inl ⟨by omega, by omega, ⟨by omega, q81.mpr (by omega)⟩, i1⟩, by omega⟩)
    · refine z_iload_n (pc := 14) dX7_ever_14 rfl 3 rfl ?_
      refine z_callS (pc := 15) (kc := kX7_isHour) (n := 1) (As := [AI b]) (stk := []) ct_X7_isHour (gdS rfl rfl (iw6 _ (List.mem_of_getElem? (i := 7) rfl)) (iw6 _ (List.mem_of_getElem? (i := 8) rfl)) (iw1 _ (List.mem_of_getElem? (i := 2) rfl)) (iw6 _ (List.mem_of_getElem? (i := 9) rfl))) rfl ⟨rfl, rfl⟩ (by decide +kernel) ⟨by decide, by decide⟩ dX7_ever_15 rfl rfl (Nat.le_of_ble_eq_true rfl) ?_
      refine ⟨_, rfl, by omega, fun v5 ev5 => ?_⟩
      refine z_if_eq (pc := 18) (tgt := 26) dX7_ever_18 (by decide) ⟨by omega, by omega⟩ (fun c6 => ?_) (fun c6 => ?_)
      · refine z_iconst (pc := 26) (v := (-1)) dX7_ever_26 rfl ?_
        refine z_iret (pc := 27) rfl dX7_ever_27 ?_
        exact hQ (-1) (by first | exact Or.inl ⟨rfl, by omega⟩ | exact Or.inr ⟨by omega, -1, Or.inr ⟨rfl, fun z z0 z1 => i1 z z0 (by omega)⟩, by omega⟩ | exact Or.inr ⟨by omega, k, Or.inl ⟨by omega, by omega, ⟨by omega, q81.mpr (by omega)⟩, i1⟩, by omega⟩)
      · refine z_iload_n (pc := 21) dX7_ever_21 rfl 3 rfl ?_
        refine z_iload_n (pc := 22) dX7_ever_22 rfl 2 rfl ?_
        refine z_icmp_ge (pc := 23) (tgt := 28) dX7_ever_23 (by decide) ⟨by omega, by omega⟩ ⟨by omega, by omega⟩ (fun c7 => ?_) (fun c7 => ?_)
        · refine z_iload_n (pc := 28) dX7_ever_28 rfl 2 rfl ?_
          refine z_iload_n (pc := 29) dX7_ever_29 rfl 3 rfl ?_
          refine z_iconst (pc := 30) (v := 1) dX7_ever_30 rfl ?_
          refine z_iadd (pc := 31) dX7_ever_31 (fun v8 ev8 => ?_)
          refine z_callS (pc := 32) (kc := kX7_hoursFrom) (n := 2) (As := [AI c, AI v8]) (stk := []) ct_X7_hoursFrom (gdS rfl rfl (iw6 _ (List.mem_of_getElem? (i := 17) rfl)) (iw6 _ (List.mem_of_getElem? (i := 18) rfl)) (iw1 _ (List.mem_of_getElem? (i := 2) rfl)) (iw6 _ (List.mem_of_getElem? (i := 19) rfl))) rfl ⟨rfl, rfl⟩ (by decide +kernel) ⟨by decide, by decide⟩ dX7_ever_32 rfl rfl (Nat.le_of_ble_eq_true rfl) ?_
          refine ⟨_, _, rfl, by omega, fun v9 ev9 => ?_⟩
          have w32 := ev9
          refine z_lstore (pc := 35) (lv' := [(4, AL v9), (0, AR 1), (1, AI x), (2, AI c), (3, AI b)]) dX7_ever_35 (by decide) rfl ?_
          refine z_iconst (pc := 37) (v := 0) dX7_ever_37 rfl ?_
          refine z_istore (pc := 38) (lv' := [(6, AI 0), (4, AL v9), (0, AR 1), (1, AI x), (2, AI c), (3, AI b)]) dX7_ever_38 (by decide) rfl ?_
          have h0 := hpre.1.1
          have J40 : ∀ (N : Nat) (k : Int), (0 ≤ k ∧ k ≤ hi 2 1) → (∀ z : Int, 0 ≤ z → z < k → ¬ (x ≤ nO (hi 2) z ∧ SomeH (hi 2) (hi 2 1) (nO (hi 2) z) c b)) → ((hi 2 1 - k).toNat) < N → Z kX7_ever Q 40 [(6, AI k), (4, AL v9), (0, AR 1), (1, AI x), (2, AI c), (3, AI b)] [] hi := by
            intro N
            induction N with
            | zero => intro k _ _ _; exact absurd (by assumption) (Nat.not_lt_zero _)
            | succ N ih40 =>
              intro k i0 i1 hm40
              refine z_iload (pc := 40) dX7_ever_40 0 rfl ?_
              refine z_aload_n (pc := 42) (x := 1) dX7_ever_42 rfl 2 rfl ?_
              refine z_getR (pc := 43) (pl := 0) (f := 0) (ci := 6) (C := RX7) (T := TX7) (N := 13) hu_X7 (by decide) rfl rfl (by decide) rfl (List.mem_cons_of_mem _ (iw1 _ (List.mem_of_getElem? (i := 16) rfl))) rfl dX7_ever_43 ?_
              refine z_callV (pc := 46) (kc := kX1_size) (n := 0) (pl := 1) (ci := 1) (C := RX1) (As := []) (stk := [AI k]) ct_X1_size (gdV rfl rfl (iw7 _ (List.mem_of_getElem? (i := 21) rfl)) (iw7 _ (List.mem_of_getElem? (i := 2) rfl)) (iw7 _ (List.mem_of_getElem? (i := 3) rfl)) (iw1 _ (List.mem_of_getElem? (i := 15) rfl)) (iw7 _ (List.mem_of_getElem? (i := 4) rfl))) rfl ⟨rfl, rfl⟩ (by decide +kernel) ⟨by decide, by decide⟩ (by decide) rfl rfl dX7_ever_46 rfl rfl (Nat.le_of_ble_eq_true rfl) ?_
              refine ⟨rfl, trivial, fun v10 ev10 => ?_⟩
              refine z_icmp_ge (pc := 49) (tgt := 96) dX7_ever_49 (by decide) ⟨by omega, by omega⟩ ⟨by omega, by omega⟩ (fun c11 => ?_) (fun c11 => ?_)
              · refine z_bipush (pc := 96) (v := (-2)) dX7_ever_96 (by decide +kernel) ?_
                refine z_iret (pc := 98) rfl dX7_ever_98 ?_
                exact hQ (-2) (by first | exact Or.inl ⟨rfl, by omega⟩ | exact Or.inr ⟨by omega, -1, Or.inr ⟨rfl, fun z z0 z1 => i1 z z0 (by omega)⟩, by omega⟩ | exact Or.inr ⟨by omega, k, Or.inl ⟨by omega, by omega, ⟨by omega, q81.mpr (by omega)⟩, i1⟩, by omega⟩)
              · refine z_aload_n (pc := 52) (x := 1) dX7_ever_52 rfl 2 rfl ?_
                refine z_getR (pc := 53) (pl := 0) (f := 0) (ci := 6) (C := RX7) (T := TX7) (N := 13) hu_X7 (by decide) rfl rfl (by decide) rfl (List.mem_cons_of_mem _ (iw1 _ (List.mem_of_getElem? (i := 16) rfl))) rfl dX7_ever_53 ?_
                refine z_iload (pc := 56) dX7_ever_56 0 rfl ?_
                refine z_callV (pc := 58) (kc := kX1_numberOf) (n := 1) (pl := 1) (ci := 1) (C := RX1) (As := [AI k]) (stk := []) ct_X1_numberOf (gdV rfl rfl (iw12 _ (List.mem_of_getElem? (i := 7) rfl)) (iw7 _ (List.mem_of_getElem? (i := 6) rfl)) (iw7 _ (List.mem_of_getElem? (i := 7) rfl)) (iw1 _ (List.mem_of_getElem? (i := 15) rfl)) (iw7 _ (List.mem_of_getElem? (i := 8) rfl))) rfl ⟨rfl, rfl⟩ (by decide +kernel) ⟨by decide, by decide⟩ (by decide) rfl rfl dX7_ever_58 rfl rfl (Nat.le_of_ble_eq_true rfl) ?_
                refine ⟨_, rfl, by omega, fun v12 ev12 => ?_⟩
                refine z_istore (pc := 61) (lv' := [(7, AI v12), (6, AI k), (4, AL v9), (0, AR 1), (1, AI x), (2, AI c), (3, AI b)]) dX7_ever_61 (by decide) rfl ?_
                refine z_iload (pc := 63) dX7_ever_63 0 rfl ?_
                refine z_iload_n (pc := 65) dX7_ever_65 rfl 4 rfl ?_
                refine z_icmp_lt (pc := 66) (tgt := 90) dX7_ever_66 (by decide) ⟨by omega, by omega⟩ ⟨by omega, by omega⟩ (fun c13 => ?_) (fun c13 => ?_)
                · refine z_iinc (pc := 90) (j := 1) (w := fun q => (6, AI q) :: [(7, AI v12), (4, AL v9), (0, AR 1), (1, AI x), (2, AI c), (3, AI b)]) dX7_ever_90 rfl (by decide) (fun _ => rfl) (fun v14 ev14 => ?_)
                  refine z_goto (pc := 93) (tgt := 40) dX7_ever_93 (by decide) ?_
                  refine z_sub (lv' := [(6, AI v14), (4, AL v9), (0, AR 1), (1, AI x), (2, AI c), (3, AI b)]) [0, 2, 3, 4, 5, 6] rfl ?_
                  exact ih40 v14 (by omega) (no_step i1 (by first | omega | (intro z; have z2 := q81.mp z.2; omega)) (by omega)) (by omega)
                · refine z_aload_n (pc := 69) (x := 1) dX7_ever_69 rfl 3 rfl ?_
                  refine z_getR (pc := 70) (pl := 0) (f := 0) (ci := 6) (C := RX7) (T := TX7) (N := 13) hu_X7 (by decide) rfl rfl (by decide) rfl (List.mem_cons_of_mem _ (iw1 _ (List.mem_of_getElem? (i := 16) rfl))) rfl dX7_ever_70 ?_
                  refine z_iload (pc := 73) dX7_ever_73 0 rfl ?_
                  refine z_iconst (pc := 75) (v := (-1)) dX7_ever_75 rfl ?_
                  refine z_callV (pc := 76) (kc := kX1_hoursOf) (n := 2) (pl := 1) (ci := 1) (C := RX1) (As := [AI v12, AI (-1)]) (stk := []) ct_X1_hoursOf (gdV rfl rfl (iw6 _ (List.mem_of_getElem? (i := 21) rfl)) (iw6 _ (List.mem_of_getElem? (i := 22) rfl)) (iw6 _ (List.mem_of_getElem? (i := 23) rfl)) (iw1 _ (List.mem_of_getElem? (i := 15) rfl)) (iw7 _ (List.mem_of_getElem? (i := 0) rfl))) rfl ⟨rfl, rfl⟩ (by decide +kernel) ⟨by decide, by decide⟩ (by decide) rfl rfl dX7_ever_76 rfl rfl (Nat.le_of_ble_eq_true rfl) ?_
                  refine ⟨_, _, rfl, ⟨hpre.1, by omega, ⟨by decide, by decide⟩⟩, fun v15 ev15 => ?_⟩
                  have w76 := ev15.2
                  rw [show v12 = nO (hi 2) k by omega] at w76
                  refine z_lload (pc := 79) dX7_ever_79 2 rfl ?_
                  refine z_land (pc := 81) dX7_ever_81 (fun v16 ev16 => ?_)
                  have bv16 := toL_inL ev16
                  have q81 := some_iff (b := b) (by omega) (by omega) (by omega) w32 w76 ev16
                  refine z_lconst (pc := 82) (v := 0) dX7_ever_82 (by decide +kernel) ?_
                  refine z_lcmp (pc := 83) dX7_ever_83 ⟨by omega, by omega⟩ ⟨by decide, by decide⟩ (fun v17 ev17 => ?_)
                  refine z_if_eq (pc := 84) (tgt := 90) dX7_ever_84 (by decide) ⟨by omega, by omega⟩ (fun c18 => ?_) (fun c18 => ?_)
                  · refine z_iinc (pc := 90) (j := 1) (w := fun q => (6, AI q) :: [(7, AI v12), (4, AL v9), (0, AR 1), (1, AI x), (2, AI c), (3, AI b)]) dX7_ever_90 rfl (by decide) (fun _ => rfl) (fun v19 ev19 => ?_)
                    refine z_goto (pc := 93) (tgt := 40) dX7_ever_93 (by decide) ?_
                    refine z_sub (lv' := [(6, AI v19), (4, AL v9), (0, AR 1), (1, AI x), (2, AI c), (3, AI b)]) [0, 2, 3, 4, 5, 6] rfl ?_
                    exact ih40 v19 (by omega) (no_step i1 (by first | omega | (intro z; have z2 := q81.mp z.2; omega)) (by omega)) (by omega)
                  · refine z_iload (pc := 87) dX7_ever_87 0 rfl ?_
                    refine z_iret (pc := 89) rfl dX7_ever_89 ?_
                    exact hQ v12 (by first | exact Or.inl ⟨rfl, by omega⟩ | exact Or.inr ⟨by omega, -1, Or.inr ⟨rfl, fun z z0 z1 => i1 z z0 (by omega)⟩, by omega⟩ | exact Or.inr ⟨by omega, k, Or.inl ⟨by omega, by omega, ⟨by omega, q81.mpr (by omega)⟩, i1⟩, by omega⟩)
          exact J40 _ 0 (by omega) (no_0 rfl) (Nat.lt_succ_self _)
        · refine z_iconst (pc := 26) (v := (-1)) dX7_ever_26 rfl ?_
          refine z_iret (pc := 27) rfl dX7_ever_27 ?_
          exact hQ (-1) (by first | exact Or.inl ⟨rfl, by omega⟩ | exact Or.inr ⟨by omega, -1, Or.inr ⟨rfl, fun z z0 z1 => i1 z z0 (by omega)⟩, by omega⟩ | exact Or.inr ⟨by omega, k, Or.inl ⟨by omega, by omega, ⟨by omega, q81.mpr (by omega)⟩, i1⟩, by omega⟩)

abbrev kX7_reigns : Kd := (cX7_reigns, .code yX7_reigns cX7_reigns 6 (some .int) :: wsL_law0, rmL 4, RX7, (some .int), 6)
theorem ct_X7_reigns : Ct kX7_reigns yX7_reigns (fun a hi Q => ∃ x : Int, ∃ y : Int, a = [AR 1, AI x, AI y] ∧ (RI (hi 2) (hi 2 1) ∧ inR x ∧ inR y) ∧ ∀ v : Int, ((v = -1 ∧ ¬ ((0 ≤ x ∧ x ≤ 999) ∧ 0 ≤ y ∧ y ≤ 999)) ∨ (((0 ≤ x ∧ x ≤ 999) ∧ 0 ≤ y ∧ y ≤ 999) ∧ v = cntP (fun h => ∃ j : Int, Fst (fun z => x + 1 ≤ nO (hi 2) z ∧ al (hi 2) z h) (hi 2 1) j ∧ 0 ≤ j ∧ nO (hi 2) j = y) 64)) → Q (AI v) hi) := by
  refine Ct.of (ws' := _) (by decide +kernel) rfl rfl ?_
  intro a hi Q hT
  obtain ⟨x, y, rfl, hpre, hQ⟩ := hT
  refine ⟨Nat.le_of_ble_eq_true rfl, ?_⟩
  show Z kX7_reigns Q 0 [(0, AR 1), (1, AI x), (2, AI y)] [] hi
  refine z_iload_n (pc := 0) dX7_reigns_0 rfl 1 rfl ?_
  refine z_callS (pc := 1) (kc := kX7_isNumber) (n := 1) (As := [AI x]) (stk := []) ct_X7_isNumber (gdS rfl rfl (iw6 _ (List.mem_of_getElem? (i := 4) rfl)) (iw6 _ (List.mem_of_getElem? (i := 5) rfl)) (iw1 _ (List.mem_of_getElem? (i := 2) rfl)) (iw6 _ (List.mem_of_getElem? (i := 6) rfl))) rfl ⟨rfl, rfl⟩ (by decide +kernel) ⟨by decide, by decide⟩ dX7_reigns_1 rfl rfl (Nat.le_of_ble_eq_true rfl) ?_
  refine ⟨_, rfl, by omega, fun v1 ev1 => ?_⟩
  refine z_if_eq (pc := 4) (tgt := 14) dX7_reigns_4 (by decide) ⟨by omega, by omega⟩ (fun c2 => ?_) (fun c2 => ?_)
  · refine z_iconst (pc := 14) (v := (-1)) dX7_reigns_14 rfl ?_
    refine z_iret (pc := 15) rfl dX7_reigns_15 ?_
    exact hQ (-1) (by first | exact Or.inl ⟨rfl, by omega⟩ | exact Or.inr ⟨by omega, by rw [i1, show k = 64 by omega]; rfl⟩)
  · refine z_iload_n (pc := 7) dX7_reigns_7 rfl 2 rfl ?_
    refine z_callS (pc := 8) (kc := kX7_isNumber) (n := 1) (As := [AI y]) (stk := []) ct_X7_isNumber (gdS rfl rfl (iw6 _ (List.mem_of_getElem? (i := 4) rfl)) (iw6 _ (List.mem_of_getElem? (i := 5) rfl)) (iw1 _ (List.mem_of_getElem? (i := 2) rfl)) (iw6 _ (List.mem_of_getElem? (i := 6) rfl))) rfl ⟨rfl, rfl⟩ (by decide +kernel) ⟨by decide, by decide⟩ dX7_reigns_8 rfl rfl (Nat.le_of_ble_eq_true rfl) ?_
    refine ⟨_, rfl, by omega, fun v3 ev3 => ?_⟩
    refine z_if_ne (pc := 11) (tgt := 16) dX7_reigns_11 (by decide) ⟨by omega, by omega⟩ (fun c4 => ?_) (fun c4 => ?_)
    · refine z_iconst (pc := 16) (v := 0) dX7_reigns_16 rfl ?_
      refine z_istore_n (pc := 17) (lv' := [(3, AI 0), (0, AR 1), (1, AI x), (2, AI y)]) dX7_reigns_17 rfl (by decide) rfl ?_
      refine z_iconst (pc := 18) (v := 0) dX7_reigns_18 rfl ?_
      refine z_istore (pc := 19) (lv' := [(4, AI 0), (3, AI 0), (0, AR 1), (1, AI x), (2, AI y)]) dX7_reigns_19 (by decide) rfl ?_
      have h0 := hpre.1.1
      have J21 : ∀ (N : Nat) (k acc : Int), (0 ≤ k ∧ k ≤ 64) → (acc = cntP (fun h => ∃ j : Int, Fst (fun z => x + 1 ≤ nO (hi 2) z ∧ al (hi 2) z h) (hi 2 1) j ∧ 0 ≤ j ∧ nO (hi 2) j = y) k.toNat) → ((64 - k).toNat) < N → Z kX7_reigns Q 21 [(4, AI k), (3, AI acc), (0, AR 1), (1, AI x), (2, AI y)] [] hi := by
        intro N
        induction N with
        | zero => intro k acc _ _ _; exact absurd (by assumption) (Nat.not_lt_zero _)
        | succ N ih21 =>
          intro k acc i0 i1 hm21
          refine z_iload (pc := 21) dX7_reigns_21 0 rfl ?_
          refine z_bipush (pc := 23) (v := 64) dX7_reigns_23 (by decide +kernel) ?_
          refine z_icmp_ge (pc := 25) (tgt := 69) dX7_reigns_25 (by decide) ⟨by omega, by omega⟩ ⟨by decide, by decide⟩ (fun c5 => ?_) (fun c5 => ?_)
          · refine z_iload_n (pc := 69) dX7_reigns_69 rfl 1 rfl ?_
            refine z_iret (pc := 70) rfl dX7_reigns_70 ?_
            exact hQ acc (by first | exact Or.inl ⟨rfl, by omega⟩ | exact Or.inr ⟨by omega, by rw [i1, show k = 64 by omega]; rfl⟩)
          · refine z_aload_n (pc := 28) (x := 1) dX7_reigns_28 rfl 2 rfl ?_
            refine z_getR (pc := 29) (pl := 0) (f := 0) (ci := 6) (C := RX7) (T := TX7) (N := 13) hu_X7 (by decide) rfl rfl (by decide) rfl (List.mem_cons_of_mem _ (iw1 _ (List.mem_of_getElem? (i := 16) rfl))) rfl dX7_reigns_29 ?_
            refine z_iload (pc := 32) dX7_reigns_32 0 rfl ?_
            refine z_iload_n (pc := 34) dX7_reigns_34 rfl 3 rfl ?_
            refine z_iconst (pc := 35) (v := 1) dX7_reigns_35 rfl ?_
            refine z_iadd (pc := 36) dX7_reigns_36 (fun v6 ev6 => ?_)
            refine z_callV (pc := 37) (kc := kX1_firstAt) (n := 2) (pl := 1) (ci := 1) (C := RX1) (As := [AI k, AI v6]) (stk := []) ct_X1_firstAt (gdV rfl rfl (iw45 _ (List.mem_of_getElem? (i := 7) rfl)) (iw34 _ (List.mem_of_getElem? (i := 7) rfl)) (iw34 _ (List.mem_of_getElem? (i := 8) rfl)) (iw1 _ (List.mem_of_getElem? (i := 15) rfl)) (iw34 _ (List.mem_of_getElem? (i := 9) rfl))) rfl ⟨rfl, rfl⟩ (by decide +kernel) ⟨by decide, by decide⟩ (by decide) rfl rfl dX7_reigns_37 rfl rfl (Nat.le_of_ble_eq_true rfl) ?_
            refine ⟨_, _, rfl, ⟨hpre.1.1, by omega, by omega⟩, fun v7 ev7 => ?_⟩
            have wf := ev7
            have gf := Fst.rng wf hpre.1.1
            rw [show v6 = x + 1 by omega] at wf
            refine z_istore (pc := 40) (lv' := [(5, AI v7), (4, AI k), (3, AI acc), (0, AR 1), (1, AI x), (2, AI y)]) dX7_reigns_40 (by decide) rfl ?_
            refine z_iload (pc := 42) dX7_reigns_42 0 rfl ?_
            refine z_if_lt (pc := 44) (tgt := 63) dX7_reigns_44 (by decide) ⟨by omega, by omega⟩ (fun c8 => ?_) (fun c8 => ?_)
            · refine z_iinc (pc := 63) (j := 1) (w := fun q => (4, AI q) :: [(5, AI v7), (3, AI acc), (0, AR 1), (1, AI x), (2, AI y)]) dX7_reigns_63 rfl (by decide) (fun _ => rfl) (fun v9 ev9 => ?_)
              refine z_goto (pc := 66) (tgt := 21) dX7_reigns_66 (by decide) ?_
              refine z_sub (lv' := [(4, AI v9), (3, AI acc), (0, AR 1), (1, AI x), (2, AI y)]) [0, 2, 3, 4, 5] rfl ?_
              exact ih21 v9 acc (by omega) (by first | exact cntP_yes (by omega) (by omega) i1 ⟨_, wf, by omega, by omega⟩ (by omega) | exact cntP_no (by omega) (by omega) i1 (fun ⟨j, q1, q2, q3⟩ => by have := q1.uniq wf; subst this; omega) (by omega)) (by omega)
            · refine z_aload_n (pc := 47) (x := 1) dX7_reigns_47 rfl 3 rfl ?_
              refine z_getR (pc := 48) (pl := 0) (f := 0) (ci := 6) (C := RX7) (T := TX7) (N := 13) hu_X7 (by decide) rfl rfl (by decide) rfl (List.mem_cons_of_mem _ (iw1 _ (List.mem_of_getElem? (i := 16) rfl))) rfl dX7_reigns_48 ?_
              refine z_iload (pc := 51) dX7_reigns_51 0 rfl ?_
              refine z_callV (pc := 53) (kc := kX1_numberOf) (n := 1) (pl := 1) (ci := 1) (C := RX1) (As := [AI v7]) (stk := []) ct_X1_numberOf (gdV rfl rfl (iw12 _ (List.mem_of_getElem? (i := 7) rfl)) (iw7 _ (List.mem_of_getElem? (i := 6) rfl)) (iw7 _ (List.mem_of_getElem? (i := 7) rfl)) (iw1 _ (List.mem_of_getElem? (i := 15) rfl)) (iw7 _ (List.mem_of_getElem? (i := 8) rfl))) rfl ⟨rfl, rfl⟩ (by decide +kernel) ⟨by decide, by decide⟩ (by decide) rfl rfl dX7_reigns_53 rfl rfl (Nat.le_of_ble_eq_true rfl) ?_
              refine ⟨_, rfl, by omega, fun v10 ev10 => ?_⟩
              refine z_iload_n (pc := 56) dX7_reigns_56 rfl 5 rfl ?_
              refine z_icmp_ne (pc := 57) (tgt := 63) dX7_reigns_57 (by decide) ⟨by omega, by omega⟩ ⟨by omega, by omega⟩ (fun c11 => ?_) (fun c11 => ?_)
              · refine z_iinc (pc := 63) (j := 1) (w := fun q => (4, AI q) :: [(5, AI v7), (3, AI acc), (0, AR 1), (1, AI x), (2, AI y)]) dX7_reigns_63 rfl (by decide) (fun _ => rfl) (fun v12 ev12 => ?_)
                refine z_goto (pc := 66) (tgt := 21) dX7_reigns_66 (by decide) ?_
                refine z_sub (lv' := [(4, AI v12), (3, AI acc), (0, AR 1), (1, AI x), (2, AI y)]) [0, 2, 3, 4, 5] rfl ?_
                exact ih21 v12 acc (by omega) (by first | exact cntP_yes (by omega) (by omega) i1 ⟨_, wf, by omega, by omega⟩ (by omega) | exact cntP_no (by omega) (by omega) i1 (fun ⟨j, q1, q2, q3⟩ => by have := q1.uniq wf; subst this; omega) (by omega)) (by omega)
              · refine z_iinc (pc := 60) (j := 2) (w := fun q => (3, AI q) :: [(5, AI v7), (4, AI k), (0, AR 1), (1, AI x), (2, AI y)]) dX7_reigns_60 rfl (by decide) (fun _ => rfl) (fun v13 ev13 => ?_)
                refine z_iinc (pc := 63) (j := 2) (w := fun q => (4, AI q) :: [(3, AI v13), (5, AI v7), (0, AR 1), (1, AI x), (2, AI y)]) dX7_reigns_63 rfl (by decide) (fun _ => rfl) (fun v14 ev14 => ?_)
                refine z_goto (pc := 66) (tgt := 21) dX7_reigns_66 (by decide) ?_
                refine z_sub (lv' := [(4, AI v14), (3, AI v13), (0, AR 1), (1, AI x), (2, AI y)]) [0, 1, 3, 4, 5] rfl ?_
                exact ih21 v14 v13 (by omega) (by first | exact cntP_yes (by omega) (by omega) i1 ⟨_, wf, by omega, by omega⟩ (by omega) | exact cntP_no (by omega) (by omega) i1 (fun ⟨j, q1, q2, q3⟩ => by have := q1.uniq wf; subst this; omega) (by omega)) (by omega)
      exact J21 _ 0 0 (by omega) (cntP_0 rfl rfl) (Nat.lt_succ_self _)
    · refine z_iconst (pc := 14) (v := (-1)) dX7_reigns_14 rfl ?_
      refine z_iret (pc := 15) rfl dX7_reigns_15 ?_
      exact hQ (-1) (by first | exact Or.inl ⟨rfl, by omega⟩ | exact Or.inr ⟨by omega, by rw [i1, show k = 64 by omega]; rfl⟩)

abbrev kX7_crowd : Kd := (cX7_crowd, .code yX7_crowd cX7_crowd 6 (some .int) :: wsL_law0, rmL 4, RX7, (some .int), 6)
theorem ct_X7_crowd : Ct kX7_crowd yX7_crowd (fun a hi Q => ∃ y : Int, a = [AR 1, AI y] ∧ (RI (hi 2) (hi 2 1) ∧ inR y) ∧ ∀ v : Int, ((v = -1 ∧ ¬ (0 ≤ y ∧ y ≤ 3)) ∨ ((0 ≤ y ∧ y ≤ 3) ∧ ∃ b : Int, Amx (fun h => (if y < 2 then sm (fun z => if al (hi 2) z h then 1 else 0) (hi 2 1).toNat else sm (fun z => if al (hi 2) z h ∧ 0 ≤ nO (hi 2) z ∧ nO (hi 2) z ≤ 999 then wO (hi 2) z else 0) (hi 2 1).toNat)) 64 b ∧ v = if y = 0 ∨ y = 2 then b else (fun h => (if y < 2 then sm (fun z => if al (hi 2) z h then 1 else 0) (hi 2 1).toNat else sm (fun z => if al (hi 2) z h ∧ 0 ≤ nO (hi 2) z ∧ nO (hi 2) z ≤ 999 then wO (hi 2) z else 0) (hi 2 1).toNat)) b)) → Q (AI v) hi) := by
  refine Ct.of (ws' := _) (by decide +kernel) rfl rfl ?_
  intro a hi Q hT
  obtain ⟨y, rfl, hpre, hQ⟩ := hT
  refine ⟨Nat.le_of_ble_eq_true rfl, ?_⟩
  show Z kX7_crowd Q 0 [(0, AR 1), (1, AI y)] [] hi
  refine z_iload_n (pc := 0) dX7_crowd_0 rfl 1 rfl ?_
  refine z_if_lt (pc := 1) (tgt := 9) dX7_crowd_1 (by decide) ⟨by omega, by omega⟩ (fun c1 => ?_) (fun c1 => ?_)
  · refine z_iconst (pc := 9) (v := (-1)) dX7_crowd_9 rfl ?_
    refine z_iret (pc := 10) rfl dX7_crowd_10 ?_
    exact hQ (-1) (by first | exact Or.inl ⟨rfl, by omega⟩ | (rcases i1 with q | ⟨q1, q2, q3⟩; exfalso; omega; rw [show k = 64 by omega] at q2; exact Or.inr ⟨by omega, b, q2, by first | (rw [if_pos (by omega)]) | (rw [if_neg (by omega)]; exact q3)⟩))
  · refine z_iload_n (pc := 4) dX7_crowd_4 rfl 1 rfl ?_
    refine z_iconst (pc := 5) (v := 3) dX7_crowd_5 rfl ?_
    refine z_icmp_le (pc := 6) (tgt := 11) dX7_crowd_6 (by decide) ⟨by omega, by omega⟩ ⟨by decide, by decide⟩ (fun c2 => ?_) (fun c2 => ?_)
    · refine z_iconst (pc := 11) (v := 0) dX7_crowd_11 rfl ?_
      refine z_istore_n (pc := 12) (lv' := [(2, AI 0), (0, AR 1), (1, AI y)]) dX7_crowd_12 rfl (by decide) rfl ?_
      refine z_iconst (pc := 13) (v := (-1)) dX7_crowd_13 rfl ?_
      refine z_istore_n (pc := 14) (lv' := [(3, AI (-1)), (2, AI 0), (0, AR 1), (1, AI y)]) dX7_crowd_14 rfl (by decide) rfl ?_
      refine z_iconst (pc := 15) (v := 0) dX7_crowd_15 rfl ?_
      refine z_istore (pc := 16) (lv' := [(4, AI 0), (3, AI (-1)), (2, AI 0), (0, AR 1), (1, AI y)]) dX7_crowd_16 (by decide) rfl ?_
      have h0 := hpre.1.1
      have J18 : ∀ (N : Nat) (k b m : Int), (0 ≤ k ∧ k ≤ 64) → ((k = 0 ∧ b = 0 ∧ m = -1) ∨ (0 < k ∧ Amx (fun h => (if y < 2 then sm (fun z => if al (hi 2) z h then 1 else 0) (hi 2 1).toNat else sm (fun z => if al (hi 2) z h ∧ 0 ≤ nO (hi 2) z ∧ nO (hi 2) z ≤ 999 then wO (hi 2) z else 0) (hi 2 1).toNat)) k b ∧ m = (fun h => (if y < 2 then sm (fun z => if al (hi 2) z h then 1 else 0) (hi 2 1).toNat else sm (fun z => if al (hi 2) z h ∧ 0 ≤ nO (hi 2) z ∧ nO (hi 2) z ≤ 999 then wO (hi 2) z else 0) (hi 2 1).toNat)) b)) → (-1 ≤ m ∧ m ≤ 4000) → ((64 - k).toNat) < N → Z kX7_crowd Q 18 [(4, AI k), (3, AI m), (2, AI b), (0, AR 1), (1, AI y)] [] hi := by
        intro N
        induction N with
        | zero => intro k b m _ _ _ _; exact absurd (by assumption) (Nat.not_lt_zero _)
        | succ N ih18 =>
          intro k b m i0 i1 i2 hm18
          refine z_iload (pc := 18) dX7_crowd_18 0 rfl ?_
          refine z_bipush (pc := 20) (v := 64) dX7_crowd_20 (by decide +kernel) ?_
          refine z_icmp_ge (pc := 22) (tgt := 75) dX7_crowd_22 (by decide) ⟨by omega, by omega⟩ ⟨by decide, by decide⟩ (fun c3 => ?_) (fun c3 => ?_)
          · refine z_iload_n (pc := 75) dX7_crowd_75 rfl 4 rfl ?_
            refine z_if_eq (pc := 76) (tgt := 84) dX7_crowd_76 (by decide) ⟨by omega, by omega⟩ (fun c4 => ?_) (fun c4 => ?_)
            · refine z_iload_n (pc := 84) dX7_crowd_84 rfl 2 rfl ?_
              refine z_goto (pc := 85) (tgt := 89) dX7_crowd_85 (by decide) ?_
              refine z_iret (pc := 89) rfl dX7_crowd_89 ?_
              exact hQ b (by first | exact Or.inl ⟨rfl, by omega⟩ | (rcases i1 with q | ⟨q1, q2, q3⟩; exfalso; omega; rw [show k = 64 by omega] at q2; exact Or.inr ⟨by omega, b, q2, by first | (rw [if_pos (by omega)]) | (rw [if_neg (by omega)]; exact q3)⟩))
            · refine z_iload_n (pc := 79) dX7_crowd_79 rfl 4 rfl ?_
              refine z_iconst (pc := 80) (v := 2) dX7_crowd_80 rfl ?_
              refine z_icmp_ne (pc := 81) (tgt := 88) dX7_crowd_81 (by decide) ⟨by omega, by omega⟩ ⟨by decide, by decide⟩ (fun c5 => ?_) (fun c5 => ?_)
              · refine z_iload_n (pc := 88) dX7_crowd_88 rfl 1 rfl ?_
                refine z_iret (pc := 89) rfl dX7_crowd_89 ?_
                exact hQ m (by first | exact Or.inl ⟨rfl, by omega⟩ | (rcases i1 with q | ⟨q1, q2, q3⟩; exfalso; omega; rw [show k = 64 by omega] at q2; exact Or.inr ⟨by omega, b, q2, by first | (rw [if_pos (by omega)]) | (rw [if_neg (by omega)]; exact q3)⟩))
              · refine z_iload_n (pc := 84) dX7_crowd_84 rfl 2 rfl ?_
                refine z_goto (pc := 85) (tgt := 89) dX7_crowd_85 (by decide) ?_
                refine z_iret (pc := 89) rfl dX7_crowd_89 ?_
                exact hQ b (by first | exact Or.inl ⟨rfl, by omega⟩ | (rcases i1 with q | ⟨q1, q2, q3⟩; exfalso; omega; rw [show k = 64 by omega] at q2; exact Or.inr ⟨by omega, b, q2, by first | (rw [if_pos (by omega)]) | (rw [if_neg (by omega)]; exact q3)⟩))
          · refine z_iload_n (pc := 25) dX7_crowd_25 rfl 4 rfl ?_
            refine z_iconst (pc := 26) (v := 2) dX7_crowd_26 rfl ?_
            refine z_icmp_ge (pc := 27) (tgt := 42) dX7_crowd_27 (by decide) ⟨by omega, by omega⟩ ⟨by decide, by decide⟩ (fun c6 => ?_) (fun c6 => ?_)
            · refine z_aload_n (pc := 42) (x := 1) dX7_crowd_42 rfl 3 rfl ?_
              refine z_getR (pc := 43) (pl := 0) (f := 0) (ci := 6) (C := RX7) (T := TX7) (N := 13) hu_X7 (by decide) rfl rfl (by decide) rfl (List.mem_cons_of_mem _ (iw1 _ (List.mem_of_getElem? (i := 16) rfl))) rfl dX7_crowd_43 ?_
              refine z_iload (pc := 46) dX7_crowd_46 0 rfl ?_
              refine z_iconst (pc := 48) (v := 0) dX7_crowd_48 rfl ?_
              refine z_sipush (pc := 49) (v := 999) dX7_crowd_49 (by decide +kernel) ?_
              refine z_callV (pc := 52) (kc := kX1_worthsAt) (n := 3) (pl := 1) (ci := 1) (C := RX1) (As := [AI k, AI 0, AI 999]) (stk := []) ct_X1_worthsAt (gdV rfl rfl (iw46 _ (List.mem_of_getElem? (i := 22) rfl)) (iw34 _ (List.mem_of_getElem? (i := 19) rfl)) (iw34 _ (List.mem_of_getElem? (i := 20) rfl)) (iw1 _ (List.mem_of_getElem? (i := 15) rfl)) (iw34 _ (List.mem_of_getElem? (i := 21) rfl))) rfl ⟨rfl, rfl⟩ (by decide +kernel) ⟨by decide, by decide⟩ (by decide) rfl rfl dX7_crowd_52 rfl rfl (Nat.le_of_ble_eq_true rfl) ?_
              refine ⟨_, _, _, rfl, ⟨hpre.1.1, by omega, by omega, by omega⟩, fun v7 ev7 => ?_⟩
              have wS : v7 = (fun h => (if y < 2 then sm (fun z => if al (hi 2) z h then 1 else 0) (hi 2 1).toNat else sm (fun z => if al (hi 2) z h ∧ 0 ≤ nO (hi 2) z ∧ nO (hi 2) z ≤ 999 then wO (hi 2) z else 0) (hi 2 1).toNat)) k := by rw [ev7]; exact (if_neg (by omega)).symm
              have gS := wor_rng hpre.1 (h := k)
              rw [← ev7] at gS
              refine z_istore (pc := 55) (lv' := [(5, AI v7), (4, AI k), (3, AI m), (2, AI b), (0, AR 1), (1, AI y)]) dX7_crowd_55 (by decide) rfl ?_
              refine z_iload (pc := 57) dX7_crowd_57 0 rfl ?_
              refine z_iload_n (pc := 59) dX7_crowd_59 rfl 2 rfl ?_
              refine z_icmp_le (pc := 60) (tgt := 69) dX7_crowd_60 (by decide) ⟨by omega, by omega⟩ ⟨by omega, by omega⟩ (fun c8 => ?_) (fun c8 => ?_)
              · refine z_iinc (pc := 69) (j := 1) (w := fun q => (4, AI q) :: [(5, AI v7), (3, AI m), (2, AI b), (0, AR 1), (1, AI y)]) dX7_crowd_69 rfl (by decide) (fun _ => rfl) (fun v9 ev9 => ?_)
                refine z_goto (pc := 72) (tgt := 18) dX7_crowd_72 (by decide) ?_
                refine z_sub (lv' := [(4, AI v9), (3, AI m), (2, AI b), (0, AR 1), (1, AI y)]) [0, 2, 3, 4, 5] rfl ?_
                exact ih18 v9 b m (by omega) (crowd_step i0.1 (by omega) i1 wS gS (by omega)) (by omega) (by omega)
              · refine z_iload (pc := 63) dX7_crowd_63 0 rfl ?_
                refine z_istore_n (pc := 65) (lv' := [(3, AI v7), (5, AI v7), (4, AI k), (2, AI b), (0, AR 1), (1, AI y)]) dX7_crowd_65 rfl (by decide) rfl ?_
                refine z_iload (pc := 66) dX7_crowd_66 2 rfl ?_
                refine z_istore_n (pc := 68) (lv' := [(2, AI k), (3, AI v7), (5, AI v7), (4, AI k), (0, AR 1), (1, AI y)]) dX7_crowd_68 rfl (by decide) rfl ?_
                refine z_iinc (pc := 69) (j := 3) (w := fun q => (4, AI q) :: [(2, AI k), (3, AI v7), (5, AI v7), (0, AR 1), (1, AI y)]) dX7_crowd_69 rfl (by decide) (fun _ => rfl) (fun v10 ev10 => ?_)
                refine z_goto (pc := 72) (tgt := 18) dX7_crowd_72 (by decide) ?_
                refine z_sub (lv' := [(4, AI v10), (3, AI v7), (2, AI k), (0, AR 1), (1, AI y)]) [0, 2, 1, 4, 5] rfl ?_
                exact ih18 v10 k v7 (by omega) (crowd_step i0.1 (by omega) i1 wS gS (by omega)) (by omega) (by omega)
            · refine z_aload_n (pc := 30) (x := 1) dX7_crowd_30 rfl 3 rfl ?_
              refine z_getR (pc := 31) (pl := 0) (f := 0) (ci := 6) (C := RX7) (T := TX7) (N := 13) hu_X7 (by decide) rfl rfl (by decide) rfl (List.mem_cons_of_mem _ (iw1 _ (List.mem_of_getElem? (i := 16) rfl))) rfl dX7_crowd_31 ?_
              refine z_iload (pc := 34) dX7_crowd_34 0 rfl ?_
              refine z_callV (pc := 36) (kc := kX1_countAt) (n := 1) (pl := 1) (ci := 1) (C := RX1) (As := [AI k]) (stk := []) ct_X1_countAt (gdV rfl rfl (iw44 _ (List.mem_of_getElem? (i := 22) rfl)) (iw34 _ (List.mem_of_getElem? (i := 15) rfl)) (iw34 _ (List.mem_of_getElem? (i := 16) rfl)) (iw1 _ (List.mem_of_getElem? (i := 15) rfl)) (iw34 _ (List.mem_of_getElem? (i := 17) rfl))) rfl ⟨rfl, rfl⟩ (by decide +kernel) ⟨by decide, by decide⟩ (by decide) rfl rfl dX7_crowd_36 rfl rfl (Nat.le_of_ble_eq_true rfl) ?_
              refine ⟨_, rfl, ⟨hpre.1.1, by omega, by omega⟩, fun v11 ev11 => ?_⟩
              have wS : v11 = (fun h => (if y < 2 then sm (fun z => if al (hi 2) z h then 1 else 0) (hi 2 1).toNat else sm (fun z => if al (hi 2) z h ∧ 0 ≤ nO (hi 2) z ∧ nO (hi 2) z ≤ 999 then wO (hi 2) z else 0) (hi 2 1).toNat)) k := by rw [ev11]; exact (if_pos (by omega)).symm
              have gS := cnt_rng hpre.1 (h := k)
              rw [← ev11] at gS
              refine z_goto (pc := 39) (tgt := 55) dX7_crowd_39 (by decide) ?_
              refine z_istore (pc := 55) (lv' := [(5, AI v11), (4, AI k), (3, AI m), (2, AI b), (0, AR 1), (1, AI y)]) dX7_crowd_55 (by decide) rfl ?_
              refine z_iload (pc := 57) dX7_crowd_57 0 rfl ?_
              refine z_iload_n (pc := 59) dX7_crowd_59 rfl 2 rfl ?_
              refine z_icmp_le (pc := 60) (tgt := 69) dX7_crowd_60 (by decide) ⟨by omega, by omega⟩ ⟨by omega, by omega⟩ (fun c12 => ?_) (fun c12 => ?_)
              · refine z_iinc (pc := 69) (j := 1) (w := fun q => (4, AI q) :: [(5, AI v11), (3, AI m), (2, AI b), (0, AR 1), (1, AI y)]) dX7_crowd_69 rfl (by decide) (fun _ => rfl) (fun v13 ev13 => ?_)
                refine z_goto (pc := 72) (tgt := 18) dX7_crowd_72 (by decide) ?_
                refine z_sub (lv' := [(4, AI v13), (3, AI m), (2, AI b), (0, AR 1), (1, AI y)]) [0, 2, 3, 4, 5] rfl ?_
                exact ih18 v13 b m (by omega) (crowd_step i0.1 (by omega) i1 wS gS (by omega)) (by omega) (by omega)
              · refine z_iload (pc := 63) dX7_crowd_63 0 rfl ?_
                refine z_istore_n (pc := 65) (lv' := [(3, AI v11), (5, AI v11), (4, AI k), (2, AI b), (0, AR 1), (1, AI y)]) dX7_crowd_65 rfl (by decide) rfl ?_
                refine z_iload (pc := 66) dX7_crowd_66 2 rfl ?_
                refine z_istore_n (pc := 68) (lv' := [(2, AI k), (3, AI v11), (5, AI v11), (4, AI k), (0, AR 1), (1, AI y)]) dX7_crowd_68 rfl (by decide) rfl ?_
                refine z_iinc (pc := 69) (j := 3) (w := fun q => (4, AI q) :: [(2, AI k), (3, AI v11), (5, AI v11), (0, AR 1), (1, AI y)]) dX7_crowd_69 rfl (by decide) (fun _ => rfl) (fun v14 ev14 => ?_)
                refine z_goto (pc := 72) (tgt := 18) dX7_crowd_72 (by decide) ?_
                refine z_sub (lv' := [(4, AI v14), (3, AI v11), (2, AI k), (0, AR 1), (1, AI y)]) [0, 2, 1, 4, 5] rfl ?_
                exact ih18 v14 k v11 (by omega) (crowd_step i0.1 (by omega) i1 wS gS (by omega)) (by omega) (by omega)
      exact J18 _ 0 0 (-1) (by omega) (Or.inl ⟨rfl, rfl, rfl⟩) (by omega) (Nat.lt_succ_self _)
    · refine z_iconst (pc := 9) (v := (-1)) dX7_crowd_9 rfl ?_
      refine z_iret (pc := 10) rfl dX7_crowd_10 ?_
      exact hQ (-1) (by first | exact Or.inl ⟨rfl, by omega⟩ | (rcases i1 with q | ⟨q1, q2, q3⟩; exfalso; omega; rw [show k = 64 by omega] at q2; exact Or.inr ⟨by omega, b, q2, by first | (rw [if_pos (by omega)]) | (rw [if_neg (by omega)]; exact q3)⟩))

abbrev kX7_cover : Kd := (cX7_cover, .code yX7_cover cX7_cover 4 (some .int) :: wsL_law0, rmL 4, RX7, (some .int), 4)
theorem ct_X7_cover : Ct kX7_cover yX7_cover (fun a hi Q => ∃ x : Int, ∃ h : Int, a = [AR 1, AI x, AI h] ∧ (RI (hi 2) (hi 2 1) ∧ inR x ∧ inR h) ∧ ∀ v : Int, ((v = -1 ∧ ¬ ((0 ≤ x ∧ x ≤ 999) ∧ (0 ≤ h ∧ h < 64))) ∨ (((0 ≤ x ∧ x ≤ 999) ∧ (0 ≤ h ∧ h < 64)) ∧ ∃ k : Int, Fst (fun z => nO (hi 2) z = x ∧ al (hi 2) z h) (hi 2 1) k ∧ ((k < 0 ∧ v = -2) ∨ (0 ≤ k ∧ Top h (bO (hi 2) k) (dO (hi 2) k) v)))) → Q (AI v) hi) := by
  refine Ct.of (ws' := _) (by decide +kernel) rfl rfl ?_
  intro a hi Q hT
  obtain ⟨x, h, rfl, hpre, hQ⟩ := hT
  refine ⟨Nat.le_of_ble_eq_true rfl, ?_⟩
  show Z kX7_cover Q 0 [(0, AR 1), (1, AI x), (2, AI h)] [] hi
  refine z_iload_n (pc := 0) dX7_cover_0 rfl 1 rfl ?_
  refine z_callS (pc := 1) (kc := kX7_isNumber) (n := 1) (As := [AI x]) (stk := []) ct_X7_isNumber (gdS rfl rfl (iw6 _ (List.mem_of_getElem? (i := 4) rfl)) (iw6 _ (List.mem_of_getElem? (i := 5) rfl)) (iw1 _ (List.mem_of_getElem? (i := 2) rfl)) (iw6 _ (List.mem_of_getElem? (i := 6) rfl))) rfl ⟨rfl, rfl⟩ (by decide +kernel) ⟨by decide, by decide⟩ dX7_cover_1 rfl rfl (Nat.le_of_ble_eq_true rfl) ?_
  refine ⟨_, rfl, by omega, fun v1 ev1 => ?_⟩
  refine z_if_eq (pc := 4) (tgt := 14) dX7_cover_4 (by decide) ⟨by omega, by omega⟩ (fun c2 => ?_) (fun c2 => ?_)
  · refine z_iconst (pc := 14) (v := (-1)) dX7_cover_14 rfl ?_
    refine z_iret (pc := 15) rfl dX7_cover_15 ?_
    exact hQ (-1) (by first | exact Or.inl ⟨rfl, by omega⟩ | exact Or.inr ⟨by omega, _, wf, Or.inl ⟨by omega, rfl⟩⟩ | exact Or.inr ⟨by omega, _, wf, Or.inr ⟨by omega, w52⟩⟩)
  · refine z_iload_n (pc := 7) dX7_cover_7 rfl 2 rfl ?_
    refine z_callS (pc := 8) (kc := kX7_isHour) (n := 1) (As := [AI h]) (stk := []) ct_X7_isHour (gdS rfl rfl (iw6 _ (List.mem_of_getElem? (i := 7) rfl)) (iw6 _ (List.mem_of_getElem? (i := 8) rfl)) (iw1 _ (List.mem_of_getElem? (i := 2) rfl)) (iw6 _ (List.mem_of_getElem? (i := 9) rfl))) rfl ⟨rfl, rfl⟩ (by decide +kernel) ⟨by decide, by decide⟩ dX7_cover_8 rfl rfl (Nat.le_of_ble_eq_true rfl) ?_
    refine ⟨_, rfl, by omega, fun v3 ev3 => ?_⟩
    refine z_if_ne (pc := 11) (tgt := 16) dX7_cover_11 (by decide) ⟨by omega, by omega⟩ (fun c4 => ?_) (fun c4 => ?_)
    · refine z_aload_n (pc := 16) (x := 1) dX7_cover_16 rfl 0 rfl ?_
      refine z_getR (pc := 17) (pl := 0) (f := 0) (ci := 6) (C := RX7) (T := TX7) (N := 13) hu_X7 (by decide) rfl rfl (by decide) rfl (List.mem_cons_of_mem _ (iw1 _ (List.mem_of_getElem? (i := 16) rfl))) rfl dX7_cover_17 ?_
      refine z_iload_n (pc := 20) dX7_cover_20 rfl 1 rfl ?_
      refine z_iload_n (pc := 21) dX7_cover_21 rfl 2 rfl ?_
      refine z_callV (pc := 22) (kc := kX1_find) (n := 2) (pl := 1) (ci := 1) (C := RX1) (As := [AI x, AI h]) (stk := []) ct_X1_find (gdV rfl rfl (iw11 _ (List.mem_of_getElem? (i := 18) rfl)) (iw11 _ (List.mem_of_getElem? (i := 19) rfl)) (iw11 _ (List.mem_of_getElem? (i := 20) rfl)) (iw1 _ (List.mem_of_getElem? (i := 15) rfl)) (iw11 _ (List.mem_of_getElem? (i := 21) rfl))) rfl ⟨rfl, rfl⟩ (by decide +kernel) ⟨by decide, by decide⟩ (by decide) rfl rfl dX7_cover_22 rfl rfl (Nat.le_of_ble_eq_true rfl) ?_
      refine ⟨_, _, rfl, by have q := hpre.1.1; exact ⟨by omega, ⟨by omega, by omega⟩, ⟨by omega, by omega⟩⟩, fun v5 ev5 => ?_⟩
      have wf := ev5
      have gf := Fst.rng wf hpre.1.1
      refine z_istore_n (pc := 25) (lv' := [(3, AI v5), (0, AR 1), (1, AI x), (2, AI h)]) dX7_cover_25 rfl (by decide) rfl ?_
      refine z_iload_n (pc := 26) dX7_cover_26 rfl 0 rfl ?_
      refine z_if_ge (pc := 27) (tgt := 35) dX7_cover_27 (by decide) ⟨by omega, by omega⟩ (fun c6 => ?_) (fun c6 => ?_)
      · refine z_iload_n (pc := 35) dX7_cover_35 rfl 3 rfl ?_
        refine z_aload_n (pc := 36) (x := 1) dX7_cover_36 rfl 1 rfl ?_
        refine z_getR (pc := 37) (pl := 0) (f := 0) (ci := 6) (C := RX7) (T := TX7) (N := 13) hu_X7 (by decide) rfl rfl (by decide) rfl (List.mem_cons_of_mem _ (iw1 _ (List.mem_of_getElem? (i := 16) rfl))) rfl dX7_cover_37 ?_
        refine z_iload_n (pc := 40) dX7_cover_40 rfl 0 rfl ?_
        refine z_callV (pc := 41) (kc := kX1_birthOf) (n := 1) (pl := 1) (ci := 1) (C := RX1) (As := [AI v5]) (stk := [AI h]) ct_X1_birthOf (gdV rfl rfl (iw12 _ (List.mem_of_getElem? (i := 2) rfl)) (iw7 _ (List.mem_of_getElem? (i := 10) rfl)) (iw7 _ (List.mem_of_getElem? (i := 11) rfl)) (iw1 _ (List.mem_of_getElem? (i := 15) rfl)) (iw7 _ (List.mem_of_getElem? (i := 12) rfl))) rfl ⟨rfl, rfl⟩ (by decide +kernel) ⟨by decide, by decide⟩ (by decide) rfl rfl dX7_cover_41 rfl rfl (Nat.le_of_ble_eq_true rfl) ?_
        refine ⟨_, rfl, by omega, fun v7 ev7 => ?_⟩
        have w41 := ev7.1
        refine z_aload_n (pc := 44) (x := 1) dX7_cover_44 rfl 1 rfl ?_
        refine z_getR (pc := 45) (pl := 0) (f := 0) (ci := 6) (C := RX7) (T := TX7) (N := 13) hu_X7 (by decide) rfl rfl (by decide) rfl (List.mem_cons_of_mem _ (iw1 _ (List.mem_of_getElem? (i := 16) rfl))) rfl dX7_cover_45 ?_
        refine z_iload_n (pc := 48) dX7_cover_48 rfl 0 rfl ?_
        refine z_callV (pc := 49) (kc := kX1_deathOf) (n := 1) (pl := 1) (ci := 1) (C := RX1) (As := [AI v5]) (stk := [AI v7, AI h]) ct_X1_deathOf (gdV rfl rfl (iw14 _ (List.mem_of_getElem? (i := 8) rfl)) (iw7 _ (List.mem_of_getElem? (i := 14) rfl)) (iw7 _ (List.mem_of_getElem? (i := 15) rfl)) (iw1 _ (List.mem_of_getElem? (i := 15) rfl)) (iw7 _ (List.mem_of_getElem? (i := 16) rfl))) rfl ⟨rfl, rfl⟩ (by decide +kernel) ⟨by decide, by decide⟩ (by decide) rfl rfl dX7_cover_49 rfl rfl (Nat.le_of_ble_eq_true rfl) ?_
        refine ⟨_, rfl, by omega, fun v8 ev8 => ?_⟩
        have w49 := ev8.1
        refine z_callS (pc := 52) (kc := kX7_pieceAround) (n := 3) (As := [AI h, AI v7, AI v8]) (stk := []) ct_X7_pieceAround (gdS rfl rfl (iw50 _ (List.mem_of_getElem? (i := 10) rfl)) (iw50 _ (List.mem_of_getElem? (i := 11) rfl)) (iw1 _ (List.mem_of_getElem? (i := 2) rfl)) (iw50 _ (List.mem_of_getElem? (i := 12) rfl))) rfl ⟨rfl, rfl⟩ (by decide +kernel) ⟨by decide, by decide⟩ dX7_cover_52 rfl rfl (Nat.le_of_ble_eq_true rfl) ?_
        refine ⟨_, _, _, rfl, by have q := (Fst.pos wf (by omega)).1; have q3 := toRng hpre.1 ⟨(by omega), q⟩; omega, fun v9 ev9 => ?_⟩
        have w52 := ev9.1
        rw [w41, w49] at w52
        refine z_iret (pc := 55) rfl dX7_cover_55 ?_
        exact hQ v9 (by first | exact Or.inl ⟨rfl, by omega⟩ | exact Or.inr ⟨by omega, _, wf, Or.inl ⟨by omega, rfl⟩⟩ | exact Or.inr ⟨by omega, _, wf, Or.inr ⟨by omega, w52⟩⟩)
      · refine z_bipush (pc := 30) (v := (-2)) dX7_cover_30 (by decide +kernel) ?_
        refine z_goto (pc := 32) (tgt := 55) dX7_cover_32 (by decide) ?_
        refine z_iret (pc := 55) rfl dX7_cover_55 ?_
        exact hQ (-2) (by first | exact Or.inl ⟨rfl, by omega⟩ | exact Or.inr ⟨by omega, _, wf, Or.inl ⟨by omega, rfl⟩⟩ | exact Or.inr ⟨by omega, _, wf, Or.inr ⟨by omega, w52⟩⟩)
    · refine z_iconst (pc := 14) (v := (-1)) dX7_cover_14 rfl ?_
      refine z_iret (pc := 15) rfl dX7_cover_15 ?_
      exact hQ (-1) (by first | exact Or.inl ⟨rfl, by omega⟩ | exact Or.inr ⟨by omega, _, wf, Or.inl ⟨by omega, rfl⟩⟩ | exact Or.inr ⟨by omega, _, wf, Or.inr ⟨by omega, w52⟩⟩)

abbrev kX7_count : Kd := (cX7_count, .code yX7_count cX7_count 2 (some .int) :: wsL_law0, rmL 3, RX7, (some .int), 2)
theorem ct_X7_count : Ct kX7_count yX7_count (fun a hi Q => ∃ y : Int, a = [AR 1, AI y] ∧ (RI (hi 2) (hi 2 1) ∧ inR y) ∧ ∀ v : Int, ((y = 0 ∧ v = hi 2 1) ∨ (y = 1 ∧ v = sm (fun z => if z = 0 ∨ nO (hi 2) z ≠ nO (hi 2) (z - 1) then 1 else 0) (hi 2 1).toNat) ∨ (y = 2 ∧ v = hi 2 0) ∨ (y = 3 ∧ v = hi 3 1) ∨ (y = 4 ∧ v = hi 29 1) ∨ (y = 5 ∧ v = sm (fun z => pcs (bO (hi 2) z) (dO (hi 2) z)) (hi 2 1).toNat) ∨ ((y < 0 ∨ 5 < y) ∧ v = -1)) → Q (AI v) hi) := by
  refine Ct.of (ws' := _) (by decide +kernel) rfl rfl ?_
  intro a hi Q hT
  obtain ⟨y, rfl, hpre, hQ⟩ := hT
  refine ⟨Nat.le_of_ble_eq_true rfl, ?_⟩
  show Z kX7_count Q 0 [(0, AR 1), (1, AI y)] [] hi
  refine z_iload_n (pc := 0) dX7_count_0 rfl 1 rfl ?_
  refine z_tsw (pc := 1)  (x := y) (dtgt := 88) (tg := [40, 48, 56, 64, 72, 80]) dX7_count_1 ⟨by omega, by omega⟩ rfl (by decide) ?_ ?_
  · intro c1
    refine z_iconst (pc := 88) (v := (-1)) dX7_count_88 rfl ?_
    refine z_iret (pc := 89) rfl dX7_count_89 ?_
    exact hQ (-1) (by omega)
  · refine ⟨fun c1 => ?_, fun c1 => ?_, fun c1 => ?_, fun c1 => ?_, fun c1 => ?_, fun c1 => ?_, trivial⟩
    · refine z_aload_n (pc := 40) (x := 1) dX7_count_40 rfl 0 rfl ?_
      refine z_getR (pc := 41) (pl := 0) (f := 0) (ci := 6) (C := RX7) (T := TX7) (N := 13) hu_X7 (by decide) rfl rfl (by decide) rfl (List.mem_cons_of_mem _ (iw1 _ (List.mem_of_getElem? (i := 16) rfl))) rfl dX7_count_41 ?_
      refine z_callV (pc := 44) (kc := kX1_size) (n := 0) (pl := 1) (ci := 1) (C := RX1) (As := []) (stk := []) ct_X1_size (gdV rfl rfl (iw7 _ (List.mem_of_getElem? (i := 21) rfl)) (iw7 _ (List.mem_of_getElem? (i := 2) rfl)) (iw7 _ (List.mem_of_getElem? (i := 3) rfl)) (iw1 _ (List.mem_of_getElem? (i := 15) rfl)) (iw7 _ (List.mem_of_getElem? (i := 4) rfl))) rfl ⟨rfl, rfl⟩ (by decide +kernel) ⟨by decide, by decide⟩ (by decide) rfl rfl dX7_count_44 rfl rfl (Nat.le_of_ble_eq_true rfl) ?_
      refine ⟨rfl, trivial, fun v2 ev2 => ?_⟩
      refine z_iret (pc := 47) rfl dX7_count_47 ?_
      exact hQ v2 (by omega)
    · refine z_aload_n (pc := 48) (x := 1) dX7_count_48 rfl 0 rfl ?_
      refine z_getR (pc := 49) (pl := 0) (f := 0) (ci := 6) (C := RX7) (T := TX7) (N := 13) hu_X7 (by decide) rfl rfl (by decide) rfl (List.mem_cons_of_mem _ (iw1 _ (List.mem_of_getElem? (i := 16) rfl))) rfl dX7_count_49 ?_
      refine z_callV (pc := 52) (kc := kX1_countNumbers) (n := 0) (pl := 1) (ci := 1) (C := RX1) (As := []) (stk := []) ct_X1_countNumbers (gdV rfl rfl (iw43 _ (List.mem_of_getElem? (i := 1) rfl)) (iw43 _ (List.mem_of_getElem? (i := 2) rfl)) (iw43 _ (List.mem_of_getElem? (i := 3) rfl)) (iw1 _ (List.mem_of_getElem? (i := 15) rfl)) (iw43 _ (List.mem_of_getElem? (i := 4) rfl))) rfl ⟨rfl, rfl⟩ (by decide +kernel) ⟨by decide, by decide⟩ (by decide) rfl rfl dX7_count_52 rfl rfl (Nat.le_of_ble_eq_true rfl) ?_
      refine ⟨rfl, hpre.1.1, fun v3 ev3 => ?_⟩
      refine z_iret (pc := 55) rfl dX7_count_55 ?_
      exact hQ v3 (by omega)
    · refine z_aload_n (pc := 56) (x := 1) dX7_count_56 rfl 0 rfl ?_
      refine z_getR (pc := 57) (pl := 0) (f := 0) (ci := 6) (C := RX7) (T := TX7) (N := 13) hu_X7 (by decide) rfl rfl (by decide) rfl (List.mem_cons_of_mem _ (iw1 _ (List.mem_of_getElem? (i := 16) rfl))) rfl dX7_count_57 ?_
      refine z_callV (pc := 60) (kc := kX1_lockHour) (n := 0) (pl := 1) (ci := 1) (C := RX1) (As := []) (stk := []) ct_X1_lockHour (gdV rfl rfl (iw7 _ (List.mem_of_getElem? (i := 17) rfl)) (iw7 _ (List.mem_of_getElem? (i := 18) rfl)) (iw7 _ (List.mem_of_getElem? (i := 19) rfl)) (iw1 _ (List.mem_of_getElem? (i := 15) rfl)) (iw7 _ (List.mem_of_getElem? (i := 20) rfl))) rfl ⟨rfl, rfl⟩ (by decide +kernel) ⟨by decide, by decide⟩ (by decide) rfl rfl dX7_count_60 rfl rfl (Nat.le_of_ble_eq_true rfl) ?_
      refine ⟨rfl, trivial, fun v4 ev4 => ?_⟩
      refine z_iret (pc := 63) rfl dX7_count_63 ?_
      exact hQ v4 (by omega)
    · refine z_aload_n (pc := 64) (x := 1) dX7_count_64 rfl 0 rfl ?_
      refine z_getR (pc := 65) (pl := 0) (f := 1) (ci := 6) (C := RX7) (T := TX7) (N := 13) hu_X7 (by decide) rfl rfl (by decide) rfl (List.mem_cons_of_mem _ (iw1 _ (List.mem_of_getElem? (i := 20) rfl))) rfl dX7_count_65 ?_
      refine z_callV (pc := 68) (kc := kX3_steps) (n := 0) (pl := 3) (ci := 3) (C := RX3) (As := []) (stk := []) ct_X3_steps (gdV rfl rfl (iw16 _ (List.mem_of_getElem? (i := 2) rfl)) (iw16 _ (List.mem_of_getElem? (i := 3) rfl)) (iw16 _ (List.mem_of_getElem? (i := 4) rfl)) (iw1 _ (List.mem_of_getElem? (i := 19) rfl)) (iw16 _ (List.mem_of_getElem? (i := 5) rfl))) rfl ⟨rfl, rfl⟩ (by decide +kernel) ⟨by decide, by decide⟩ (by decide) rfl rfl dX7_count_68 rfl rfl (Nat.le_of_ble_eq_true rfl) ?_
      refine ⟨rfl, trivial, fun v5 ev5 => ?_⟩
      refine z_iret (pc := 71) rfl dX7_count_71 ?_
      exact hQ v5 (by omega)
    · refine z_aload_n (pc := 72) (x := 1) dX7_count_72 rfl 0 rfl ?_
      refine z_getR (pc := 73) (pl := 0) (f := 4) (ci := 6) (C := RX7) (T := TX7) (N := 13) hu_X7 (by decide) rfl rfl (by decide) rfl (List.mem_cons_of_mem _ (iw2 _ (List.mem_of_getElem? (i := 5) rfl))) rfl dX7_count_73 ?_
      refine z_callV (pc := 76) (kc := kX6_length) (n := 0) (pl := 29) (ci := 5) (C := RX6) (As := []) (stk := []) ct_X6_length (gdV rfl rfl (iw17 _ (List.mem_of_getElem? (i := 4) rfl)) (iw17 _ (List.mem_of_getElem? (i := 5) rfl)) (iw17 _ (List.mem_of_getElem? (i := 6) rfl)) (iw2 _ (List.mem_of_getElem? (i := 4) rfl)) (iw17 _ (List.mem_of_getElem? (i := 7) rfl))) rfl ⟨rfl, rfl⟩ (by decide +kernel) ⟨by decide, by decide⟩ (by decide) rfl rfl dX7_count_76 rfl rfl (Nat.le_of_ble_eq_true rfl) ?_
      refine ⟨rfl, trivial, fun v6 ev6 => ?_⟩
      refine z_iret (pc := 79) rfl dX7_count_79 ?_
      exact hQ v6 (by omega)
    · refine z_aload_n (pc := 80) (x := 1) dX7_count_80 rfl 0 rfl ?_
      refine z_getR (pc := 81) (pl := 0) (f := 0) (ci := 6) (C := RX7) (T := TX7) (N := 13) hu_X7 (by decide) rfl rfl (by decide) rfl (List.mem_cons_of_mem _ (iw1 _ (List.mem_of_getElem? (i := 16) rfl))) rfl dX7_count_81 ?_
      refine z_callV (pc := 84) (kc := kX1_countPieces) (n := 0) (pl := 1) (ci := 1) (C := RX1) (As := []) (stk := []) ct_X1_countPieces (gdV rfl rfl (iw43 _ (List.mem_of_getElem? (i := 5) rfl)) (iw43 _ (List.mem_of_getElem? (i := 6) rfl)) (iw43 _ (List.mem_of_getElem? (i := 7) rfl)) (iw1 _ (List.mem_of_getElem? (i := 15) rfl)) (iw43 _ (List.mem_of_getElem? (i := 8) rfl))) rfl ⟨rfl, rfl⟩ (by decide +kernel) ⟨by decide, by decide⟩ (by decide) rfl rfl dX7_count_84 rfl rfl (Nat.le_of_ble_eq_true rfl) ?_
      refine ⟨rfl, hpre.1, fun v7 ev7 => ?_⟩
      refine z_iret (pc := 87) rfl dX7_count_87 ?_
      exact hQ v7 (by omega)

abbrev kX7_ran : Kd := (cX7_ran, .code yX7_ran cX7_ran 2 (some .int) :: wsL_law0, rmL 1, RX7, (some .int), 2)
theorem ct_X7_ran : Ct kX7_ran yX7_ran (fun a hi Q => ∃ y : Int, a = [AR 1, AI y] ∧ (inR y) ∧ ∀ v : Int, ((hi 0 8 = 0 ∧ v = -1) ∨ (hi 0 8 ≠ 0 ∧ ((y = 0 ∧ v = hi 0 9) ∨ (y = 1 ∧ v = hi 0 10) ∨ (y = 2 ∧ v = hi 0 11) ∨ (y = 3 ∧ v = hi 0 12) ∨ ((y < 0 ∨ 3 < y) ∧ v = -1)))) → Q (AI v) hi) := by
  refine Ct.of (ws' := _) (by decide +kernel) rfl rfl ?_
  intro a hi Q hT
  obtain ⟨y, rfl, hpre, hQ⟩ := hT
  refine ⟨Nat.le_of_ble_eq_true rfl, ?_⟩
  show Z kX7_ran Q 0 [(0, AR 1), (1, AI y)] [] hi
  refine z_aload_n (pc := 0) (x := 1) dX7_ran_0 rfl 0 rfl ?_
  refine z_getI (pc := 1) (pl := 0) (f := 8) (ci := 6) (C := RX7) (T := TX7) (N := 13) hu_X7 (by decide) rfl rfl (by decide) rfl (List.mem_cons_of_mem _ (iw2 _ (List.mem_of_getElem? (i := 18) rfl))) rfl (by decide) dX7_ran_1 (fun v1 ev1 rv1 => ?_)
  refine z_if_ne (pc := 4) (tgt := 9) dX7_ran_4 (by decide) ⟨by omega, by omega⟩ (fun c2 => ?_) (fun c2 => ?_)
  · refine z_iload_n (pc := 9) dX7_ran_9 rfl 1 rfl ?_
    refine z_tsw (pc := 10)  (x := y) (dtgt := 60) (tg := [40, 45, 50, 55]) dX7_ran_10 ⟨by omega, by omega⟩ rfl (by decide) ?_ ?_
    · intro c3
      refine z_iconst (pc := 60) (v := (-1)) dX7_ran_60 rfl ?_
      refine z_iret (pc := 61) rfl dX7_ran_61 ?_
      exact hQ (-1) (by omega)
    · refine ⟨fun c3 => ?_, fun c3 => ?_, fun c3 => ?_, fun c3 => ?_, trivial⟩
      · refine z_aload_n (pc := 40) (x := 1) dX7_ran_40 rfl 0 rfl ?_
        refine z_getI (pc := 41) (pl := 0) (f := 9) (ci := 6) (C := RX7) (T := TX7) (N := 13) hu_X7 (by decide) rfl rfl (by decide) rfl (List.mem_cons_of_mem _ (iw2 _ (List.mem_of_getElem? (i := 19) rfl))) rfl (by decide) dX7_ran_41 (fun v4 ev4 rv4 => ?_)
        refine z_iret (pc := 44) rfl dX7_ran_44 ?_
        exact hQ v4 (by omega)
      · refine z_aload_n (pc := 45) (x := 1) dX7_ran_45 rfl 0 rfl ?_
        refine z_getI (pc := 46) (pl := 0) (f := 10) (ci := 6) (C := RX7) (T := TX7) (N := 13) hu_X7 (by decide) rfl rfl (by decide) rfl (List.mem_cons_of_mem _ (iw2 _ (List.mem_of_getElem? (i := 20) rfl))) rfl (by decide) dX7_ran_46 (fun v5 ev5 rv5 => ?_)
        refine z_iret (pc := 49) rfl dX7_ran_49 ?_
        exact hQ v5 (by omega)
      · refine z_aload_n (pc := 50) (x := 1) dX7_ran_50 rfl 0 rfl ?_
        refine z_getI (pc := 51) (pl := 0) (f := 11) (ci := 6) (C := RX7) (T := TX7) (N := 13) hu_X7 (by decide) rfl rfl (by decide) rfl (List.mem_cons_of_mem _ (iw2 _ (List.mem_of_getElem? (i := 21) rfl))) rfl (by decide) dX7_ran_51 (fun v6 ev6 rv6 => ?_)
        refine z_iret (pc := 54) rfl dX7_ran_54 ?_
        exact hQ v6 (by omega)
      · refine z_aload_n (pc := 55) (x := 1) dX7_ran_55 rfl 0 rfl ?_
        refine z_getI (pc := 56) (pl := 0) (f := 12) (ci := 6) (C := RX7) (T := TX7) (N := 13) hu_X7 (by decide) rfl rfl (by decide) rfl (List.mem_cons_of_mem _ (iw2 _ (List.mem_of_getElem? (i := 22) rfl))) rfl (by decide) dX7_ran_56 (fun v7 ev7 rv7 => ?_)
        refine z_iret (pc := 59) rfl dX7_ran_59 ?_
        exact hQ v7 (by omega)
  · refine z_iconst (pc := 7) (v := (-1)) dX7_ran_7 rfl ?_
    refine z_iret (pc := 8) rfl dX7_ran_8 ?_
    exact hQ (-1) (by omega)

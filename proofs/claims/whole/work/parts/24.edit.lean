theorem toL_inL {x : Int64} {v : Int} (h : v = x.toInt) : inL v := by rw [h]; exact toInt_inL _
theorem toI_inR {x : Int32} {v : Int} (h : v = x.toInt) : inR v := by rw [h]; exact toInt_inR _
theorem i2b_rng {x : Int8} {v : Int} (h : v = x.toInt) : -128 ≤ v ∧ v < 128 := by
  rw [h]; have := Int8.le_toInt x; have := Int8.toInt_lt x; omega
/-- some locked hour at which the number would live and did not, or the other way round -/
def LK (f : Nat → Int) (n lk x o b d : Int) : Prop := ∃ h, 0 ≤ h ∧ h < 64 ∧ h < lk ∧ ¬ (Hrs f n x (-1) h ↔ (Hrs f n x o h ∨ (b ≤ h ∧ h < d)))
def CL (f : Nat → Int) (n x o b d : Int) : Prop := ∃ h, 0 ≤ h ∧ h < 64 ∧ Hrs f n x o h ∧ b ≤ h ∧ h < d
theorem lk_iff {f : Nat → Int} {n lk x o b d v1 v2 v3 v4 v5 v7 v8 : Int} (h1 : ∀ h : Int, 0 ≤ h → h < 64 → (bit v1 h ↔ (b ≤ h ∧ h < d))) (h2 : ∀ h : Int, 0 ≤ h → h < 64 → (bit v2 h ↔ Hrs f n x o h)) (h3 : ∀ h : Int, 0 ≤ h → h < 64 → (bit v3 h ↔ Hrs f n x (-1) h)) (h7 : ∀ h : Int, 0 ≤ h → h < 64 → (bit v7 h ↔ (0 ≤ h ∧ h < lk))) (e4 : v4 = (iL v2 ||| iL v1).toInt) (e5 : v5 = (iL v3 ^^^ iL v4).toInt) (e8 : v8 = (iL v5 &&& iL v7).toInt) : LK f n lk x o b d ↔ v8 ≠ 0 := by
  rw [ne_eq, bit_zero_iff (toL_inL e8)]
  constructor
  · rintro ⟨h, a0, a1, a2, a3⟩ q
    refine q h a0 a1 ((bit_and e8).mpr ⟨(bit_xor e5).mpr ?_, (h7 h a0 a1).mpr ⟨a0, a2⟩⟩)
    rw [bit_or e4, h1 h a0 a1, h2 h a0 a1, h3 h a0 a1]; exact a3
  · intro q
    apply Classical.byContradiction
    intro z
    refine q (fun h a0 a1 c => z ?_)
    obtain ⟨c1, c2⟩ := (bit_and e8).mp c
    have c3 := (bit_xor e5).mp c1
    rw [bit_or e4, h1 h a0 a1, h2 h a0 a1, h3 h a0 a1] at c3
    exact ⟨h, a0, a1, ((h7 h a0 a1).mp c2).2, c3⟩
theorem cl_iff {f : Nat → Int} {n x o b d v1 v2 v8 : Int} (h1 : ∀ h : Int, 0 ≤ h → h < 64 → (bit v1 h ↔ (b ≤ h ∧ h < d))) (h2 : ∀ h : Int, 0 ≤ h → h < 64 → (bit v2 h ↔ Hrs f n x o h)) (e8 : v8 = (iL v2 &&& iL v1).toInt) : CL f n x o b d ↔ v8 ≠ 0 := by
  rw [ne_eq, bit_zero_iff (toL_inL e8)]
  constructor
  · rintro ⟨h, a0, a1, a2, a3⟩ q
    exact q h a0 a1 ((bit_and e8).mpr ⟨(h2 h a0 a1).mpr a2, (h1 h a0 a1).mpr a3⟩)
  · intro q
    apply Classical.byContradiction
    intro z
    refine q (fun h a0 a1 c => z ?_)
    obtain ⟨c1, c2⟩ := (bit_and e8).mp c
    exact ⟨h, a0, a1, (h2 h a0 a1).mp c1, (h1 h a0 a1).mp c2⟩
/-- what holds of the class's state between edits -/
def CI (hi : HI) : Prop := RI (hi 2) (hi 2 1) ∧ (0 ≤ hi 2 0 ∧ hi 2 0 ≤ 64) ∧ (0 ≤ hi 3 1 ∧ hi 3 1 ≤ 20) ∧ 0 ≤ hi 3 2 ∧ hi 3 2 < 20
/-- life k of f comes to be from b to d (gone if these are one): f2 -/
def ChF (f f2 : Nat → Int) (n k b d : Int) : Prop := ∃ f1, RemAt f f1 n k ∧ (b < d → ∃ p, Plc f1 (n - 1) (nO f k) b p ∧ InsAt f1 f2 (n - 1) p (nO f k) b d (wO f k)) ∧ (d ≤ b → f2 = f1)
def ChP (hi h2 : HI) (k b d v : Int) : Prop := (v = 3 ∧ LK (hi 2) (hi 2 1) (hi 2 0) (nO (hi 2) k) k b d ∧ h2 = hi) ∨ (v = 4 ∧ ¬ LK (hi 2) (hi 2 1) (hi 2 0) (nO (hi 2) k) k b d ∧ CL (hi 2) (hi 2 1) (nO (hi 2) k) k b d ∧ h2 = hi) ∨ (v = 0 ∧ ¬ LK (hi 2) (hi 2 1) (hi 2 0) (nO (hi 2) k) k b d ∧ ¬ CL (hi 2) (hi 2 1) (nO (hi 2) k) k b d ∧ ∃ f2, ChF (hi 2) f2 (hi 2 1) k b d ∧ h2 = hput (RemH hi) 2 f2)
theorem RemH_2 (hi : HI) : (RemH hi) 2 = hi 2 := by
  unfold RemH; rw [hput_ne _ _ (by decide), hput_ne _ _ (by omega)]
theorem toRng {f : Nat → Int} {n k : Int} (h : RI f n) (hk : 0 ≤ k ∧ k < n) : (0 ≤ nO f k ∧ nO f k ≤ 999) ∧ (0 ≤ bO f k ∧ bO f k < dO f k ∧ dO f k ≤ 64) ∧ 0 ≤ wO f k ∧ wO f k ≤ 99 := h.2.1 k hk.1 hk.2
theorem Fst.pos {P : Int → Prop} {n v : Int} (h : Fst P n v) (h0 : 0 ≤ v) : v < n ∧ P v := by
  rcases h with ⟨a1, a2, a3, a4⟩ | ⟨a1, a2⟩
  · exact ⟨a2, a3⟩
  · omega
theorem Fst.neg {P : Int → Prop} {n v : Int} (h : Fst P n v) (h0 : v < 0) : v = -1 ∧ ∀ z, 0 ≤ z → z < n → ¬ P z := by
  rcases h with ⟨a1, a2, a3, a4⟩ | ⟨a1, a2⟩
  · omega
  · exact ⟨a1, a2⟩
theorem TakH_31 (hi : HI) : (TakH hi) 3 1 = hi 3 1 - 1 := by unfold TakH; rw [hput_same, updI_same]
theorem Fst.rng {P : Int → Prop} {n v : Int} (h : Fst P n v) (h0 : 0 ≤ n ∧ n ≤ 40) : -1 ≤ v ∧ v < 40 := by
  rcases h with ⟨a1, a2, a3, a4⟩ | ⟨a1, a2⟩ <;> omega
/-- a span put in -/
def SpP (hi h2 : HI) (x b d w v : Int) : Prop := (v = 1 ∧ ¬ ((0 ≤ x ∧ x ≤ 999) ∧ (0 ≤ b ∧ b < 64) ∧ (0 ≤ w ∧ w ≤ 99) ∧ b < d ∧ d ≤ 64) ∧ h2 = hi) ∨ (((0 ≤ x ∧ x ≤ 999) ∧ (0 ≤ b ∧ b < 64) ∧ (0 ≤ w ∧ w ≤ 99) ∧ b < d ∧ d ≤ 64) ∧ ((v = 3 ∧ LK (hi 2) (hi 2 1) (hi 2 0) x (-1) b d ∧ h2 = hi) ∨ (v = 4 ∧ ¬ LK (hi 2) (hi 2 1) (hi 2 0) x (-1) b d ∧ CL (hi 2) (hi 2 1) x (-1) b d ∧ h2 = hi) ∨ (v = 5 ∧ ¬ LK (hi 2) (hi 2 1) (hi 2 0) x (-1) b d ∧ ¬ CL (hi 2) (hi 2 1) x (-1) b d ∧ 40 ≤ hi 2 1 ∧ h2 = hi) ∨ (v = 0 ∧ ¬ LK (hi 2) (hi 2 1) (hi 2 0) x (-1) b d ∧ ¬ CL (hi 2) (hi 2 1) x (-1) b d ∧ hi 2 1 < 40 ∧ ∃ (p : Int) (f2 : Nat → Int), Plc (hi 2) (hi 2 1) x b p ∧ InsAt (hi 2) f2 (hi 2 1) p x b d w ∧ h2 = hput (RemH hi) 2 f2)))
abbrev kX7_whyRefused : Kd := (cX7_whyRefused, .code yX7_whyRefused cX7_whyRefused 11 (some .int) :: wsL_law0, rmL 3, RX7, (some .int), 11)
theorem ct_X7_whyRefused : Ct kX7_whyRefused yX7_whyRefused (fun a hi Q => ∃ x : Int, ∃ o : Int, ∃ b : Int, ∃ d : Int, a = [AR 1, AI x, AI o, AI b, AI d] ∧ ((RI (hi 2) (hi 2 1) ∧ inR x ∧ inR o) ∧ (0 ≤ hi 2 0 ∧ hi 2 0 ≤ 64) ∧ (0 ≤ b ∧ b < 64) ∧ 0 ≤ d ∧ d ≤ 64) ∧ ∀ v : Int, ((v = 3 ∧ LK (hi 2) (hi 2 1) (hi 2 0) x o b d) ∨ (v = 4 ∧ ¬ LK (hi 2) (hi 2 1) (hi 2 0) x o b d ∧ CL (hi 2) (hi 2 1) x o b d) ∨ (v = 0 ∧ ¬ LK (hi 2) (hi 2 1) (hi 2 0) x o b d ∧ ¬ CL (hi 2) (hi 2 1) x o b d)) → Q (AI v) hi) := by
  refine Ct.of (ws' := _) (by decide +kernel) rfl rfl ?_
  intro a hi Q hT
  obtain ⟨x, o, b, d, rfl, hpre, hQ⟩ := hT
  refine ⟨Nat.le_of_ble_eq_true rfl, ?_⟩
  show Z kX7_whyRefused Q 0 [(0, AR 1), (1, AI x), (2, AI o), (3, AI b), (4, AI d)] [] hi
  refine z_iload_n (pc := 0) dX7_whyRefused_0 rfl 3 rfl ?_
  refine z_iload (pc := 1) dX7_whyRefused_1 4 rfl ?_
  refine z_callS (pc := 3) (kc := kX7_hoursFrom) (n := 2) (As := [AI b, AI d]) (stk := []) ct_X7_hoursFrom (gdS rfl rfl (iw6 _ (List.mem_of_getElem? (i := 17) rfl)) (iw6 _ (List.mem_of_getElem? (i := 18) rfl)) (iw1 _ (List.mem_of_getElem? (i := 2) rfl)) (iw6 _ (List.mem_of_getElem? (i := 19) rfl))) rfl ⟨rfl, rfl⟩ (by decide +kernel) ⟨by decide, by decide⟩ dX7_whyRefused_3 rfl rfl (Nat.le_of_ble_eq_true rfl) ?_
  refine ⟨_, _, rfl, by omega, fun v1 ev1 => ?_⟩
  have w3 := ev1
  refine z_lstore (pc := 6) (lv' := [(5, AL v1), (0, AR 1), (1, AI x), (2, AI o), (3, AI b), (4, AI d)]) dX7_whyRefused_6 (by decide) rfl ?_
  refine z_aload_n (pc := 8) (x := 1) dX7_whyRefused_8 rfl 1 rfl ?_
  refine z_getR (pc := 9) (pl := 0) (f := 0) (ci := 6) (C := RX7) (T := TX7) (N := 13) hu_X7 (by decide) rfl rfl (by decide) rfl (List.mem_cons_of_mem _ (iw1 _ (List.mem_of_getElem? (i := 16) rfl))) rfl dX7_whyRefused_9 ?_
  refine z_iload_n (pc := 12) dX7_whyRefused_12 rfl 2 rfl ?_
  refine z_iload_n (pc := 13) dX7_whyRefused_13 rfl 3 rfl ?_
  refine z_callV (pc := 14) (kc := kX1_hoursOf) (n := 2) (pl := 1) (ci := 1) (C := RX1) (As := [AI x, AI o]) (stk := []) ct_X1_hoursOf (gdV rfl rfl (iw6 _ (List.mem_of_getElem? (i := 21) rfl)) (iw6 _ (List.mem_of_getElem? (i := 22) rfl)) (iw6 _ (List.mem_of_getElem? (i := 23) rfl)) (iw1 _ (List.mem_of_getElem? (i := 15) rfl)) (iw7 _ (List.mem_of_getElem? (i := 0) rfl))) rfl ⟨rfl, rfl⟩ (by decide +kernel) ⟨by decide, by decide⟩ (by decide) rfl rfl dX7_whyRefused_14 rfl rfl (Nat.le_of_ble_eq_true rfl) ?_
  refine ⟨_, _, rfl, hpre.1, fun v2 ev2 => ?_⟩
  have w14 := ev2
  refine z_lstore (pc := 17) (lv' := [(7, AL v2), (5, AL v1), (0, AR 1), (1, AI x), (2, AI o), (3, AI b), (4, AI d)]) dX7_whyRefused_17 (by decide) rfl ?_
  refine z_aload_n (pc := 19) (x := 1) dX7_whyRefused_19 rfl 2 rfl ?_
  refine z_getR (pc := 20) (pl := 0) (f := 0) (ci := 6) (C := RX7) (T := TX7) (N := 13) hu_X7 (by decide) rfl rfl (by decide) rfl (List.mem_cons_of_mem _ (iw1 _ (List.mem_of_getElem? (i := 16) rfl))) rfl dX7_whyRefused_20 ?_
  refine z_iload_n (pc := 23) dX7_whyRefused_23 rfl 3 rfl ?_
  refine z_iconst (pc := 24) (v := (-1)) dX7_whyRefused_24 rfl ?_
  refine z_callV (pc := 25) (kc := kX1_hoursOf) (n := 2) (pl := 1) (ci := 1) (C := RX1) (As := [AI x, AI (-1)]) (stk := []) ct_X1_hoursOf (gdV rfl rfl (iw6 _ (List.mem_of_getElem? (i := 21) rfl)) (iw6 _ (List.mem_of_getElem? (i := 22) rfl)) (iw6 _ (List.mem_of_getElem? (i := 23) rfl)) (iw1 _ (List.mem_of_getElem? (i := 15) rfl)) (iw7 _ (List.mem_of_getElem? (i := 0) rfl))) rfl ⟨rfl, rfl⟩ (by decide +kernel) ⟨by decide, by decide⟩ (by decide) rfl rfl dX7_whyRefused_25 rfl rfl (Nat.le_of_ble_eq_true rfl) ?_
  refine ⟨_, _, rfl, ⟨hpre.1.1, hpre.1.2.1, ⟨by decide, by decide⟩⟩, fun v3 ev3 => ?_⟩
  have w25 := ev3
  refine z_lload (pc := 28) dX7_whyRefused_28 0 rfl ?_
  refine z_lload (pc := 30) dX7_whyRefused_30 1 rfl ?_
  refine z_lor (pc := 32) dX7_whyRefused_32 (fun v4 ev4 => ?_)
  have bv4 := toL_inL ev4
  have w32 := ev4
  refine z_lxor (pc := 33) dX7_whyRefused_33 (fun v5 ev5 => ?_)
  have bv5 := toL_inL ev5
  have w33 := ev5
  refine z_lstore (pc := 34) (lv' := [(9, AL v5), (7, AL v2), (5, AL v1), (0, AR 1), (1, AI x), (2, AI o), (3, AI b), (4, AI d)]) dX7_whyRefused_34 (by decide) rfl ?_
  refine z_lload (pc := 36) dX7_whyRefused_36 0 rfl ?_
  refine z_iconst (pc := 38) (v := 0) dX7_whyRefused_38 rfl ?_
  refine z_aload_n (pc := 39) (x := 1) dX7_whyRefused_39 rfl 3 rfl ?_
  refine z_getR (pc := 40) (pl := 0) (f := 0) (ci := 6) (C := RX7) (T := TX7) (N := 13) hu_X7 (by decide) rfl rfl (by decide) rfl (List.mem_cons_of_mem _ (iw1 _ (List.mem_of_getElem? (i := 16) rfl))) rfl dX7_whyRefused_40 ?_
  refine z_callV (pc := 43) (kc := kX1_lockHour) (n := 0) (pl := 1) (ci := 1) (C := RX1) (As := []) (stk := [AI 0, AL v5]) ct_X1_lockHour (gdV rfl rfl (iw7 _ (List.mem_of_getElem? (i := 17) rfl)) (iw7 _ (List.mem_of_getElem? (i := 18) rfl)) (iw7 _ (List.mem_of_getElem? (i := 19) rfl)) (iw1 _ (List.mem_of_getElem? (i := 15) rfl)) (iw7 _ (List.mem_of_getElem? (i := 20) rfl))) rfl ⟨rfl, rfl⟩ (by decide +kernel) ⟨by decide, by decide⟩ (by decide) rfl rfl dX7_whyRefused_43 rfl rfl (Nat.le_of_ble_eq_true rfl) ?_
  refine ⟨rfl, trivial, fun v6 ev6 => ?_⟩
  refine z_callS (pc := 46) (kc := kX7_hoursFrom) (n := 2) (As := [AI 0, AI v6]) (stk := [AL v5]) ct_X7_hoursFrom (gdS rfl rfl (iw6 _ (List.mem_of_getElem? (i := 17) rfl)) (iw6 _ (List.mem_of_getElem? (i := 18) rfl)) (iw1 _ (List.mem_of_getElem? (i := 2) rfl)) (iw6 _ (List.mem_of_getElem? (i := 19) rfl))) rfl ⟨rfl, rfl⟩ (by decide +kernel) ⟨by decide, by decide⟩ dX7_whyRefused_46 rfl rfl (Nat.le_of_ble_eq_true rfl) ?_
  refine ⟨_, _, rfl, by omega, fun v7 ev7 => ?_⟩
  have w46 := ev7
  rw [show v6 = hi 2 0 by omega] at w46
  refine z_land (pc := 49) dX7_whyRefused_49 (fun v8 ev8 => ?_)
  have bv8 := toL_inL ev8
  have q49 := lk_iff w3.2 w14.2 w25.2 w46.2 w32 w33 ev8
  refine z_lconst (pc := 50) (v := 0) dX7_whyRefused_50 (by decide +kernel) ?_
  refine z_lcmp (pc := 51) dX7_whyRefused_51 ⟨by omega, by omega⟩ ⟨by decide, by decide⟩ (fun v9 ev9 => ?_)
  refine z_if_eq (pc := 52) (tgt := 57) dX7_whyRefused_52 (by decide) ⟨by omega, by omega⟩ (fun c10 => ?_) (fun c10 => ?_)
  · refine z_lload (pc := 57) dX7_whyRefused_57 1 rfl ?_
    refine z_lload (pc := 59) dX7_whyRefused_59 2 rfl ?_
    refine z_land (pc := 61) dX7_whyRefused_61 (fun v11 ev11 => ?_)
    have bv11 := toL_inL ev11
    have q61 := cl_iff w3.2 w14.2 ev11
    refine z_lconst (pc := 62) (v := 0) dX7_whyRefused_62 (by decide +kernel) ?_
    refine z_lcmp (pc := 63) dX7_whyRefused_63 ⟨by omega, by omega⟩ ⟨by decide, by decide⟩ (fun v12 ev12 => ?_)
    refine z_if_eq (pc := 64) (tgt := 71) dX7_whyRefused_64 (by decide) ⟨by omega, by omega⟩ (fun c13 => ?_) (fun c13 => ?_)
    · refine z_iconst (pc := 71) (v := 0) dX7_whyRefused_71 rfl ?_
      refine z_iret (pc := 72) rfl dX7_whyRefused_72 ?_
      exact hQ 0 (by first | exact Or.inl ⟨rfl, q49.mpr (by omega)⟩ | exact Or.inr (Or.inl ⟨rfl, fun z => absurd (q49.mp z) (by omega), q61.mpr (by omega)⟩) | exact Or.inr (Or.inr ⟨rfl, fun z => absurd (q49.mp z) (by omega), fun z => absurd (q61.mp z) (by omega)⟩))
    · refine z_iconst (pc := 67) (v := 4) dX7_whyRefused_67 rfl ?_
      refine z_goto (pc := 68) (tgt := 72) dX7_whyRefused_68 (by decide) ?_
      refine z_iret (pc := 72) rfl dX7_whyRefused_72 ?_
      exact hQ 4 (by first | exact Or.inl ⟨rfl, q49.mpr (by omega)⟩ | exact Or.inr (Or.inl ⟨rfl, fun z => absurd (q49.mp z) (by omega), q61.mpr (by omega)⟩) | exact Or.inr (Or.inr ⟨rfl, fun z => absurd (q49.mp z) (by omega), fun z => absurd (q61.mp z) (by omega)⟩))
  · refine z_iconst (pc := 55) (v := 3) dX7_whyRefused_55 rfl ?_
    refine z_iret (pc := 56) rfl dX7_whyRefused_56 ?_
    exact hQ 3 (by first | exact Or.inl ⟨rfl, q49.mpr (by omega)⟩ | exact Or.inr (Or.inl ⟨rfl, fun z => absurd (q49.mp z) (by omega), q61.mpr (by omega)⟩) | exact Or.inr (Or.inr ⟨rfl, fun z => absurd (q49.mp z) (by omega), fun z => absurd (q61.mp z) (by omega)⟩))

abbrev kX7_changeLife : Kd := (cX7_changeLife, .code yX7_changeLife cX7_changeLife 7 (some .int) :: wsL_law0, rmL 4, RX7, (some .int), 7)
theorem ct_X7_changeLife : Ct kX7_changeLife yX7_changeLife (fun a hi Q => ∃ k : Int, ∃ b : Int, ∃ d : Int, a = [AR 1, AI k, AI b, AI d] ∧ (CI hi ∧ (0 ≤ k ∧ k < hi 2 1) ∧ (0 ≤ b ∧ b < 64) ∧ 0 ≤ d ∧ d ≤ 64) ∧ ∀ (v : Int) (h2 : HI), (Fr [2, 3, 5, 6, 7, 8, 9, 10, 11, 12, 13, 14, 15, 16, 17, 18, 19, 20, 21, 22, 23, 24] hi h2 ∧ (ChP hi h2 k b d v)) → Q (AI v) h2) := by
  refine Ct.of (ws' := _) (by decide +kernel) rfl rfl ?_
  intro a hi Q hT
  obtain ⟨k, b, d, rfl, hpre, hQ⟩ := hT
  refine ⟨Nat.le_of_ble_eq_true rfl, ?_⟩
  show Z kX7_changeLife Q 0 [(0, AR 1), (1, AI k), (2, AI b), (3, AI d)] [] hi
  refine z_aload_n (pc := 0) (x := 1) dX7_changeLife_0 rfl 0 rfl ?_
  refine z_getR (pc := 1) (pl := 0) (f := 0) (ci := 6) (C := RX7) (T := TX7) (N := 13) hu_X7 (by decide) rfl rfl (by decide) rfl (List.mem_cons_of_mem _ (iw1 _ (List.mem_of_getElem? (i := 16) rfl))) rfl dX7_changeLife_1 ?_
  refine z_iload_n (pc := 4) dX7_changeLife_4 rfl 1 rfl ?_
  refine z_callV (pc := 5) (kc := kX1_numberOf) (n := 1) (pl := 1) (ci := 1) (C := RX1) (As := [AI k]) (stk := []) ct_X1_numberOf (gdV rfl rfl (iw12 _ (List.mem_of_getElem? (i := 7) rfl)) (iw7 _ (List.mem_of_getElem? (i := 6) rfl)) (iw7 _ (List.mem_of_getElem? (i := 7) rfl)) (iw1 _ (List.mem_of_getElem? (i := 15) rfl)) (iw7 _ (List.mem_of_getElem? (i := 8) rfl))) rfl ⟨rfl, rfl⟩ (by decide +kernel) ⟨by decide, by decide⟩ (by decide) rfl rfl dX7_changeLife_5 rfl rfl (Nat.le_of_ble_eq_true rfl) ?_
  refine ⟨_, rfl, by have q := hpre.1.1.1; omega, fun v1 ev1 => ?_⟩
  have w5 := ev1.1
  refine z_istore (pc := 8) (lv' := [(4, AI v1), (0, AR 1), (1, AI k), (2, AI b), (3, AI d)]) dX7_changeLife_8 (by decide) rfl ?_
  refine z_aload_n (pc := 10) (x := 1) dX7_changeLife_10 rfl 1 rfl ?_
  refine z_getR (pc := 11) (pl := 0) (f := 0) (ci := 6) (C := RX7) (T := TX7) (N := 13) hu_X7 (by decide) rfl rfl (by decide) rfl (List.mem_cons_of_mem _ (iw1 _ (List.mem_of_getElem? (i := 16) rfl))) rfl dX7_changeLife_11 ?_
  refine z_iload_n (pc := 14) dX7_changeLife_14 rfl 2 rfl ?_
  refine z_callV (pc := 15) (kc := kX1_worthOf) (n := 1) (pl := 1) (ci := 1) (C := RX1) (As := [AI k]) (stk := []) ct_X1_worthOf (gdV rfl rfl (iw12 _ (List.mem_of_getElem? (i := 8) rfl)) (iw12 _ (List.mem_of_getElem? (i := 9) rfl)) (iw12 _ (List.mem_of_getElem? (i := 10) rfl)) (iw1 _ (List.mem_of_getElem? (i := 15) rfl)) (iw12 _ (List.mem_of_getElem? (i := 11) rfl))) rfl ⟨rfl, rfl⟩ (by decide +kernel) ⟨by decide, by decide⟩ (by decide) rfl rfl dX7_changeLife_15 rfl rfl (Nat.le_of_ble_eq_true rfl) ?_
  refine ⟨_, rfl, by have q := hpre.1.1.1; omega, fun v2 ev2 => ?_⟩
  have w15 := ev2.1
  refine z_istore (pc := 18) (lv' := [(5, AI v2), (4, AI v1), (0, AR 1), (1, AI k), (2, AI b), (3, AI d)]) dX7_changeLife_18 (by decide) rfl ?_
  refine z_aload_n (pc := 20) (x := 1) dX7_changeLife_20 rfl 2 rfl ?_
  refine z_iload (pc := 21) dX7_changeLife_21 1 rfl ?_
  refine z_iload_n (pc := 23) dX7_changeLife_23 rfl 3 rfl ?_
  refine z_iload_n (pc := 24) dX7_changeLife_24 rfl 4 rfl ?_
  refine z_iload_n (pc := 25) dX7_changeLife_25 rfl 5 rfl ?_
  refine z_callV (pc := 26) (kc := kX7_whyRefused) (n := 4) (pl := 0) (ci := 6) (C := RX7) (As := [AI v1, AI k, AI b, AI d]) (stk := []) ct_X7_whyRefused (gdV rfl rfl (iw6 _ (List.mem_of_getElem? (i := 13) rfl)) (iw6 _ (List.mem_of_getElem? (i := 14) rfl)) (iw6 _ (List.mem_of_getElem? (i := 15) rfl)) (iw1 _ (List.mem_of_getElem? (i := 2) rfl)) (iw6 _ (List.mem_of_getElem? (i := 16) rfl))) rfl ⟨rfl, rfl⟩ (by decide +kernel) ⟨by decide, by decide⟩ (by decide) rfl rfl dX7_changeLife_26 rfl rfl (Nat.le_of_ble_eq_true rfl) ?_
  refine ⟨_, _, _, _, rfl, ⟨⟨hpre.1.1, by omega, by have q := hpre.1.1.1; exact ⟨by omega, by omega⟩⟩, hpre.1.2.1, hpre.2.2.1, hpre.2.2.2⟩, fun v3 ev3 => ?_⟩
  have w26 := ev3
  rw [show v1 = nO (hi 2) k by omega] at w26
  refine z_istore (pc := 29) (lv' := [(6, AI v3), (5, AI v2), (4, AI v1), (0, AR 1), (1, AI k), (2, AI b), (3, AI d)]) dX7_changeLife_29 (by decide) rfl ?_
  refine z_iload (pc := 31) dX7_changeLife_31 0 rfl ?_
  refine z_if_eq (pc := 33) (tgt := 39) dX7_changeLife_33 (by decide) ⟨by omega, by omega⟩ (fun c4 => ?_) (fun c4 => ?_)
  · refine z_aload_n (pc := 39) (x := 1) dX7_changeLife_39 rfl 3 rfl ?_
    refine z_getR (pc := 40) (pl := 0) (f := 1) (ci := 6) (C := RX7) (T := TX7) (N := 13) hu_X7 (by decide) rfl rfl (by decide) rfl (List.mem_cons_of_mem _ (iw1 _ (List.mem_of_getElem? (i := 20) rfl))) rfl dX7_changeLife_40 ?_
    refine z_aload_n (pc := 43) (x := 1) dX7_changeLife_43 rfl 3 rfl ?_
    refine z_getR (pc := 44) (pl := 0) (f := 0) (ci := 6) (C := RX7) (T := TX7) (N := 13) hu_X7 (by decide) rfl rfl (by decide) rfl (List.mem_cons_of_mem _ (iw1 _ (List.mem_of_getElem? (i := 16) rfl))) rfl dX7_changeLife_44 ?_
    refine z_callV (pc := 47) (kc := kX3_remember) (n := 1) (pl := 3) (ci := 3) (C := RX3) (As := [AR 2]) (stk := []) ct_X3_remember (gdV rfl rfl (iw7 _ (List.mem_of_getElem? (i := 22) rfl)) (iw7 _ (List.mem_of_getElem? (i := 23) rfl)) (iw8 _ (List.mem_of_getElem? (i := 0) rfl)) (iw1 _ (List.mem_of_getElem? (i := 19) rfl)) (iw8 _ (List.mem_of_getElem? (i := 1) rfl))) rfl ⟨rfl, rfl⟩ (by decide +kernel) ⟨by decide, by decide⟩ (by decide) rfl rfl dX7_changeLife_47 rfl rfl (Nat.le_of_ble_eq_true rfl) ?_
    refine ⟨rfl, ⟨hpre.1.2.2.1, hpre.1.2.2.2⟩, fun h5 eh5 => ?_⟩
    have frh5 : Fr [2, 3, 5, 6, 7, 8, 9, 10, 11, 12, 13, 14, 15, 16, 17, 18, 19, 20, 21, 22, 23, 24] hi h5 := (Fr.call (Fr.rf) eh5.1 (by decide))
    have w47 := eh5.2
    have m47 : h5 2 = hi 2 := by rw [w47]; exact RemH_2 hi
    refine z_aload_n (pc := 50) (x := 1) dX7_changeLife_50 rfl 3 rfl ?_
    refine z_getR (pc := 51) (pl := 0) (f := 0) (ci := 6) (C := RX7) (T := TX7) (N := 13) hu_X7 (by decide) rfl rfl (by decide) rfl (List.mem_cons_of_mem _ (iw1 _ (List.mem_of_getElem? (i := 16) rfl))) rfl dX7_changeLife_51 ?_
    refine z_iload_n (pc := 54) dX7_changeLife_54 rfl 4 rfl ?_
    refine z_callV (pc := 55) (kc := kX1_remove) (n := 1) (pl := 1) (ci := 1) (C := RX1) (As := [AI k]) (stk := []) ct_X1_remove (gdV rfl rfl (iw12 _ (List.mem_of_getElem? (i := 12) rfl)) (iw12 _ (List.mem_of_getElem? (i := 13) rfl)) (iw12 _ (List.mem_of_getElem? (i := 14) rfl)) (iw1 _ (List.mem_of_getElem? (i := 15) rfl)) (iw12 _ (List.mem_of_getElem? (i := 15) rfl))) rfl ⟨rfl, rfl⟩ (by decide +kernel) ⟨by decide, by decide⟩ (by decide) rfl rfl dX7_changeLife_55 rfl rfl (Nat.le_of_ble_eq_true rfl) ?_
    refine ⟨_, rfl, by rw [m47]; have q := hpre.1.1.1; omega, fun h6 eh6 => ?_⟩
    have frh6 : Fr [2, 3, 5, 6, 7, 8, 9, 10, 11, 12, 13, 14, 15, 16, 17, 18, 19, 20, 21, 22, 23, 24] hi h6 := (Fr.call frh5 eh6.1 (by decide))
    try rw [(eh5.1 2 (by decide) : h5 2 = hi 2)] at eh6
    obtain ⟨f1, w55, r55⟩ := eh6.2
    have m55 : h6 2 = f1 := by rw [w55]; exact hput_same _ _ _
    refine z_iload_n (pc := 58) dX7_changeLife_58 rfl 5 rfl ?_
    refine z_iload_n (pc := 59) dX7_changeLife_59 rfl 6 rfl ?_
    refine z_icmp_ge (pc := 60) (tgt := 76) dX7_changeLife_60 (by decide) ⟨by omega, by omega⟩ ⟨by omega, by omega⟩ (fun c7 => ?_) (fun c7 => ?_)
    · refine z_iconst (pc := 76) (v := 0) dX7_changeLife_76 rfl ?_
      refine z_iret (pc := 77) rfl dX7_changeLife_77 ?_
      exact hQ 0 h6 ⟨frh6, by first | (rcases w26 with ⟨q1, q2⟩ | ⟨q1, q2, q3⟩ | ⟨q1, q2, q3⟩; exact Or.inl ⟨q1, q2, rfl⟩; exact Or.inr (Or.inl ⟨q1, q2, q3, rfl⟩); omega) | (rcases w26 with ⟨q1, q2⟩ | ⟨q1, q2, q3⟩ | ⟨q1, q2, q3⟩; omega; omega; exact Or.inr (Or.inr ⟨rfl, q2, q3, by first | exact ⟨f2, ⟨f1, r55, fun _ => ⟨p73, by rw [← w5]; exact q73, by rw [← w5, ← w15]; exact r73⟩, fun q => by omega⟩, by rw [w73, w55, w47, hput_hput]⟩ | exact ⟨f1, ⟨f1, r55, fun q => by omega, fun _ => rfl⟩, by rw [w55, w47]⟩⟩))⟩
    · refine z_aload_n (pc := 63) (x := 1) dX7_changeLife_63 rfl 3 rfl ?_
      refine z_getR (pc := 64) (pl := 0) (f := 0) (ci := 6) (C := RX7) (T := TX7) (N := 13) hu_X7 (by decide) rfl rfl (by decide) rfl (List.mem_cons_of_mem _ (iw1 _ (List.mem_of_getElem? (i := 16) rfl))) rfl dX7_changeLife_64 ?_
      refine z_iload (pc := 67) dX7_changeLife_67 2 rfl ?_
      refine z_iload_n (pc := 69) dX7_changeLife_69 rfl 5 rfl ?_
      refine z_iload_n (pc := 70) dX7_changeLife_70 rfl 6 rfl ?_
      refine z_iload (pc := 71) dX7_changeLife_71 1 rfl ?_
      refine z_callV (pc := 73) (kc := kX1_insert) (n := 4) (pl := 1) (ci := 1) (C := RX1) (As := [AI v1, AI b, AI d, AI v2]) (stk := []) ct_X1_insert (gdV rfl rfl (iw8 _ (List.mem_of_getElem? (i := 14) rfl)) (iw8 _ (List.mem_of_getElem? (i := 15) rfl)) (iw8 _ (List.mem_of_getElem? (i := 16) rfl)) (iw1 _ (List.mem_of_getElem? (i := 15) rfl)) (iw8 _ (List.mem_of_getElem? (i := 17) rfl))) rfl ⟨rfl, rfl⟩ (by decide +kernel) ⟨by decide, by decide⟩ (by decide) rfl rfl dX7_changeLife_73 rfl rfl (Nat.le_of_ble_eq_true rfl) ?_
      refine ⟨_, _, _, _, rfl, by rw [m55, r55.2.1]; have q := hpre.1.1.1; have q5 := toRng hpre.1.1 hpre.2.1; exact ⟨by omega, ⟨by omega, by omega⟩, ⟨by omega, by omega⟩, ⟨by omega, by omega⟩, by omega, by omega⟩, fun h8 eh8 => ?_⟩
      have frh8 : Fr [2, 3, 5, 6, 7, 8, 9, 10, 11, 12, 13, 14, 15, 16, 17, 18, 19, 20, 21, 22, 23, 24] hi h8 := (Fr.call frh6 eh8.1 (by decide))
      obtain ⟨p73, f2, w73, q73, r73⟩ := eh8.2
      rw [m55, r55.2.1] at q73 r73
      refine z_iconst (pc := 76) (v := 0) dX7_changeLife_76 rfl ?_
      refine z_iret (pc := 77) rfl dX7_changeLife_77 ?_
      exact hQ 0 h8 ⟨frh8, by first | (rcases w26 with ⟨q1, q2⟩ | ⟨q1, q2, q3⟩ | ⟨q1, q2, q3⟩; exact Or.inl ⟨q1, q2, rfl⟩; exact Or.inr (Or.inl ⟨q1, q2, q3, rfl⟩); omega) | (rcases w26 with ⟨q1, q2⟩ | ⟨q1, q2, q3⟩ | ⟨q1, q2, q3⟩; omega; omega; exact Or.inr (Or.inr ⟨rfl, q2, q3, by first | exact ⟨f2, ⟨f1, r55, fun _ => ⟨p73, by rw [← w5]; exact q73, by rw [← w5, ← w15]; exact r73⟩, fun q => by omega⟩, by rw [w73, w55, w47, hput_hput]⟩ | exact ⟨f1, ⟨f1, r55, fun q => by omega, fun _ => rfl⟩, by rw [w55, w47]⟩⟩))⟩
  · refine z_iload (pc := 36) dX7_changeLife_36 0 rfl ?_
    refine z_iret (pc := 38) rfl dX7_changeLife_38 ?_
    exact hQ v3 hi ⟨(Fr.rf), by first | (rcases w26 with ⟨q1, q2⟩ | ⟨q1, q2, q3⟩ | ⟨q1, q2, q3⟩; exact Or.inl ⟨q1, q2, rfl⟩; exact Or.inr (Or.inl ⟨q1, q2, q3, rfl⟩); omega) | (rcases w26 with ⟨q1, q2⟩ | ⟨q1, q2, q3⟩ | ⟨q1, q2, q3⟩; omega; omega; exact Or.inr (Or.inr ⟨rfl, q2, q3, by first | exact ⟨f2, ⟨f1, r55, fun _ => ⟨p73, by rw [← w5]; exact q73, by rw [← w5, ← w15]; exact r73⟩, fun q => by omega⟩, by rw [w73, w55, w47, hput_hput]⟩ | exact ⟨f1, ⟨f1, r55, fun q => by omega, fun _ => rfl⟩, by rw [w55, w47]⟩⟩))⟩

abbrev kX7_span : Kd := (cX7_span, .code yX7_span cX7_span 6 (some .int) :: wsL_law0, rmL 4, RX7, (some .int), 6)
theorem ct_X7_span : Ct kX7_span yX7_span (fun a hi Q => ∃ x : Int, ∃ b : Int, ∃ d : Int, ∃ w : Int, a = [AR 1, AI x, AI b, AI d, AI w] ∧ (CI hi ∧ inR x ∧ inR b ∧ inR d ∧ inR w) ∧ ∀ (v : Int) (h2 : HI), (Fr [2, 3, 5, 6, 7, 8, 9, 10, 11, 12, 13, 14, 15, 16, 17, 18, 19, 20, 21, 22, 23, 24] hi h2 ∧ (SpP hi h2 x b d w v)) → Q (AI v) h2) := by
  refine Ct.of (ws' := _) (by decide +kernel) rfl rfl ?_
  intro a hi Q hT
  obtain ⟨x, b, d, w, rfl, hpre, hQ⟩ := hT
  refine ⟨Nat.le_of_ble_eq_true rfl, ?_⟩
  show Z kX7_span Q 0 [(0, AR 1), (1, AI x), (2, AI b), (3, AI d), (4, AI w)] [] hi
  refine z_iload_n (pc := 0) dX7_span_0 rfl 1 rfl ?_
  refine z_callS (pc := 1) (kc := kX7_isNumber) (n := 1) (As := [AI x]) (stk := []) ct_X7_isNumber (gdS rfl rfl (iw6 _ (List.mem_of_getElem? (i := 4) rfl)) (iw6 _ (List.mem_of_getElem? (i := 5) rfl)) (iw1 _ (List.mem_of_getElem? (i := 2) rfl)) (iw6 _ (List.mem_of_getElem? (i := 6) rfl))) rfl ⟨rfl, rfl⟩ (by decide +kernel) ⟨by decide, by decide⟩ dX7_span_1 rfl rfl (Nat.le_of_ble_eq_true rfl) ?_
  refine ⟨_, rfl, by omega, fun v1 ev1 => ?_⟩
  refine z_if_eq (pc := 4) (tgt := 33) dX7_span_4 (by decide) ⟨by omega, by omega⟩ (fun c2 => ?_) (fun c2 => ?_)
  · refine z_iconst (pc := 33) (v := 1) dX7_span_33 rfl ?_
    refine z_iret (pc := 34) rfl dX7_span_34 ?_
    exact hQ 1 hi ⟨(Fr.rf), by first | exact Or.inl ⟨rfl, by omega, rfl⟩ | (refine Or.inr ⟨by omega, ?_⟩; rcases w40 with ⟨q1, q2⟩ | ⟨q1, q2, q3⟩ | ⟨q1, q2, q3⟩ <;> first | exact Or.inl ⟨q1, q2, rfl⟩ | exact Or.inr (Or.inl ⟨q1, q2, q3, rfl⟩) | exact Or.inr (Or.inr (Or.inl ⟨rfl, q2, q3, by omega, rfl⟩)) | exact Or.inr (Or.inr (Or.inr ⟨rfl, q2, q3, by omega, p87, f2, q87, r87, by rw [w87, w75]⟩)) | (exfalso; omega))⟩
  · refine z_iload_n (pc := 7) dX7_span_7 rfl 2 rfl ?_
    refine z_callS (pc := 8) (kc := kX7_isHour) (n := 1) (As := [AI b]) (stk := []) ct_X7_isHour (gdS rfl rfl (iw6 _ (List.mem_of_getElem? (i := 7) rfl)) (iw6 _ (List.mem_of_getElem? (i := 8) rfl)) (iw1 _ (List.mem_of_getElem? (i := 2) rfl)) (iw6 _ (List.mem_of_getElem? (i := 9) rfl))) rfl ⟨rfl, rfl⟩ (by decide +kernel) ⟨by decide, by decide⟩ dX7_span_8 rfl rfl (Nat.le_of_ble_eq_true rfl) ?_
    refine ⟨_, rfl, by omega, fun v3 ev3 => ?_⟩
    refine z_if_eq (pc := 11) (tgt := 33) dX7_span_11 (by decide) ⟨by omega, by omega⟩ (fun c4 => ?_) (fun c4 => ?_)
    · refine z_iconst (pc := 33) (v := 1) dX7_span_33 rfl ?_
      refine z_iret (pc := 34) rfl dX7_span_34 ?_
      exact hQ 1 hi ⟨(Fr.rf), by first | exact Or.inl ⟨rfl, by omega, rfl⟩ | (refine Or.inr ⟨by omega, ?_⟩; rcases w40 with ⟨q1, q2⟩ | ⟨q1, q2, q3⟩ | ⟨q1, q2, q3⟩ <;> first | exact Or.inl ⟨q1, q2, rfl⟩ | exact Or.inr (Or.inl ⟨q1, q2, q3, rfl⟩) | exact Or.inr (Or.inr (Or.inl ⟨rfl, q2, q3, by omega, rfl⟩)) | exact Or.inr (Or.inr (Or.inr ⟨rfl, q2, q3, by omega, p87, f2, q87, r87, by rw [w87, w75]⟩)) | (exfalso; omega))⟩
    · refine z_iload (pc := 14) dX7_span_14 4 rfl ?_
      refine z_callS (pc := 16) (kc := kX7_isWorth) (n := 1) (As := [AI w]) (stk := []) ct_X7_isWorth (gdS rfl rfl (iw6 _ (List.mem_of_getElem? (i := 10) rfl)) (iw6 _ (List.mem_of_getElem? (i := 11) rfl)) (iw1 _ (List.mem_of_getElem? (i := 2) rfl)) (iw6 _ (List.mem_of_getElem? (i := 12) rfl))) rfl ⟨rfl, rfl⟩ (by decide +kernel) ⟨by decide, by decide⟩ dX7_span_16 rfl rfl (Nat.le_of_ble_eq_true rfl) ?_
      refine ⟨_, rfl, by omega, fun v5 ev5 => ?_⟩
      refine z_if_eq (pc := 19) (tgt := 33) dX7_span_19 (by decide) ⟨by omega, by omega⟩ (fun c6 => ?_) (fun c6 => ?_)
      · refine z_iconst (pc := 33) (v := 1) dX7_span_33 rfl ?_
        refine z_iret (pc := 34) rfl dX7_span_34 ?_
        exact hQ 1 hi ⟨(Fr.rf), by first | exact Or.inl ⟨rfl, by omega, rfl⟩ | (refine Or.inr ⟨by omega, ?_⟩; rcases w40 with ⟨q1, q2⟩ | ⟨q1, q2, q3⟩ | ⟨q1, q2, q3⟩ <;> first | exact Or.inl ⟨q1, q2, rfl⟩ | exact Or.inr (Or.inl ⟨q1, q2, q3, rfl⟩) | exact Or.inr (Or.inr (Or.inl ⟨rfl, q2, q3, by omega, rfl⟩)) | exact Or.inr (Or.inr (Or.inr ⟨rfl, q2, q3, by omega, p87, f2, q87, r87, by rw [w87, w75]⟩)) | (exfalso; omega))⟩
      · refine z_iload_n (pc := 22) dX7_span_22 rfl 3 rfl ?_
        refine z_iload_n (pc := 23) dX7_span_23 rfl 2 rfl ?_
        refine z_icmp_le (pc := 24) (tgt := 33) dX7_span_24 (by decide) ⟨by omega, by omega⟩ ⟨by omega, by omega⟩ (fun c7 => ?_) (fun c7 => ?_)
        · refine z_iconst (pc := 33) (v := 1) dX7_span_33 rfl ?_
          refine z_iret (pc := 34) rfl dX7_span_34 ?_
          exact hQ 1 hi ⟨(Fr.rf), by first | exact Or.inl ⟨rfl, by omega, rfl⟩ | (refine Or.inr ⟨by omega, ?_⟩; rcases w40 with ⟨q1, q2⟩ | ⟨q1, q2, q3⟩ | ⟨q1, q2, q3⟩ <;> first | exact Or.inl ⟨q1, q2, rfl⟩ | exact Or.inr (Or.inl ⟨q1, q2, q3, rfl⟩) | exact Or.inr (Or.inr (Or.inl ⟨rfl, q2, q3, by omega, rfl⟩)) | exact Or.inr (Or.inr (Or.inr ⟨rfl, q2, q3, by omega, p87, f2, q87, r87, by rw [w87, w75]⟩)) | (exfalso; omega))⟩
        · refine z_iload_n (pc := 27) dX7_span_27 rfl 3 rfl ?_
          refine z_bipush (pc := 28) (v := 64) dX7_span_28 (by decide +kernel) ?_
          refine z_icmp_le (pc := 30) (tgt := 35) dX7_span_30 (by decide) ⟨by omega, by omega⟩ ⟨by decide, by decide⟩ (fun c8 => ?_) (fun c8 => ?_)
          · refine z_aload_n (pc := 35) (x := 1) dX7_span_35 rfl 0 rfl ?_
            refine z_iload_n (pc := 36) dX7_span_36 rfl 1 rfl ?_
            refine z_iconst (pc := 37) (v := (-1)) dX7_span_37 rfl ?_
            refine z_iload_n (pc := 38) dX7_span_38 rfl 2 rfl ?_
            refine z_iload_n (pc := 39) dX7_span_39 rfl 3 rfl ?_
            refine z_callV (pc := 40) (kc := kX7_whyRefused) (n := 4) (pl := 0) (ci := 6) (C := RX7) (As := [AI x, AI (-1), AI b, AI d]) (stk := []) ct_X7_whyRefused (gdV rfl rfl (iw6 _ (List.mem_of_getElem? (i := 13) rfl)) (iw6 _ (List.mem_of_getElem? (i := 14) rfl)) (iw6 _ (List.mem_of_getElem? (i := 15) rfl)) (iw1 _ (List.mem_of_getElem? (i := 2) rfl)) (iw6 _ (List.mem_of_getElem? (i := 16) rfl))) rfl ⟨rfl, rfl⟩ (by decide +kernel) ⟨by decide, by decide⟩ (by decide) rfl rfl dX7_span_40 rfl rfl (Nat.le_of_ble_eq_true rfl) ?_
            refine ⟨_, _, _, _, rfl, ⟨⟨hpre.1.1, by omega, ⟨by decide, by decide⟩⟩, hpre.1.2.1, by omega, by omega⟩, fun v9 ev9 => ?_⟩
            have w40 := ev9
            refine z_istore (pc := 43) (lv' := [(5, AI v9), (0, AR 1), (1, AI x), (2, AI b), (3, AI d), (4, AI w)]) dX7_span_43 (by decide) rfl ?_
            refine z_iload (pc := 45) dX7_span_45 0 rfl ?_
            refine z_if_eq (pc := 47) (tgt := 53) dX7_span_47 (by decide) ⟨by omega, by omega⟩ (fun c10 => ?_) (fun c10 => ?_)
            · refine z_aload_n (pc := 53) (x := 1) dX7_span_53 rfl 1 rfl ?_
              refine z_getR (pc := 54) (pl := 0) (f := 0) (ci := 6) (C := RX7) (T := TX7) (N := 13) hu_X7 (by decide) rfl rfl (by decide) rfl (List.mem_cons_of_mem _ (iw1 _ (List.mem_of_getElem? (i := 16) rfl))) rfl dX7_span_54 ?_
              refine z_callV (pc := 57) (kc := kX1_size) (n := 0) (pl := 1) (ci := 1) (C := RX1) (As := []) (stk := []) ct_X1_size (gdV rfl rfl (iw7 _ (List.mem_of_getElem? (i := 21) rfl)) (iw7 _ (List.mem_of_getElem? (i := 2) rfl)) (iw7 _ (List.mem_of_getElem? (i := 3) rfl)) (iw1 _ (List.mem_of_getElem? (i := 15) rfl)) (iw7 _ (List.mem_of_getElem? (i := 4) rfl))) rfl ⟨rfl, rfl⟩ (by decide +kernel) ⟨by decide, by decide⟩ (by decide) rfl rfl dX7_span_57 rfl rfl (Nat.le_of_ble_eq_true rfl) ?_
              refine ⟨rfl, trivial, fun v11 ev11 => ?_⟩
              have n57 := hpre.1.1.1
              refine z_bipush (pc := 60) (v := 40) dX7_span_60 (by decide +kernel) ?_
              refine z_icmp_lt (pc := 62) (tgt := 67) dX7_span_62 (by decide) ⟨by omega, by omega⟩ ⟨by decide, by decide⟩ (fun c12 => ?_) (fun c12 => ?_)
              · refine z_aload_n (pc := 67) (x := 1) dX7_span_67 rfl 1 rfl ?_
                refine z_getR (pc := 68) (pl := 0) (f := 1) (ci := 6) (C := RX7) (T := TX7) (N := 13) hu_X7 (by decide) rfl rfl (by decide) rfl (List.mem_cons_of_mem _ (iw1 _ (List.mem_of_getElem? (i := 20) rfl))) rfl dX7_span_68 ?_
                refine z_aload_n (pc := 71) (x := 1) dX7_span_71 rfl 1 rfl ?_
                refine z_getR (pc := 72) (pl := 0) (f := 0) (ci := 6) (C := RX7) (T := TX7) (N := 13) hu_X7 (by decide) rfl rfl (by decide) rfl (List.mem_cons_of_mem _ (iw1 _ (List.mem_of_getElem? (i := 16) rfl))) rfl dX7_span_72 ?_
                refine z_callV (pc := 75) (kc := kX3_remember) (n := 1) (pl := 3) (ci := 3) (C := RX3) (As := [AR 2]) (stk := []) ct_X3_remember (gdV rfl rfl (iw7 _ (List.mem_of_getElem? (i := 22) rfl)) (iw7 _ (List.mem_of_getElem? (i := 23) rfl)) (iw8 _ (List.mem_of_getElem? (i := 0) rfl)) (iw1 _ (List.mem_of_getElem? (i := 19) rfl)) (iw8 _ (List.mem_of_getElem? (i := 1) rfl))) rfl ⟨rfl, rfl⟩ (by decide +kernel) ⟨by decide, by decide⟩ (by decide) rfl rfl dX7_span_75 rfl rfl (Nat.le_of_ble_eq_true rfl) ?_
                refine ⟨rfl, ⟨hpre.1.2.2.1, hpre.1.2.2.2⟩, fun h13 eh13 => ?_⟩
                have frh13 : Fr [2, 3, 5, 6, 7, 8, 9, 10, 11, 12, 13, 14, 15, 16, 17, 18, 19, 20, 21, 22, 23, 24] hi h13 := (Fr.call (Fr.rf) eh13.1 (by decide))
                have w75 := eh13.2
                have m75 : h13 2 = hi 2 := by rw [w75]; exact RemH_2 hi
                refine z_aload_n (pc := 78) (x := 1) dX7_span_78 rfl 1 rfl ?_
                refine z_getR (pc := 79) (pl := 0) (f := 0) (ci := 6) (C := RX7) (T := TX7) (N := 13) hu_X7 (by decide) rfl rfl (by decide) rfl (List.mem_cons_of_mem _ (iw1 _ (List.mem_of_getElem? (i := 16) rfl))) rfl dX7_span_79 ?_
                refine z_iload_n (pc := 82) dX7_span_82 rfl 2 rfl ?_
                refine z_iload_n (pc := 83) dX7_span_83 rfl 3 rfl ?_
                refine z_iload_n (pc := 84) dX7_span_84 rfl 4 rfl ?_
                refine z_iload (pc := 85) dX7_span_85 5 rfl ?_
                refine z_callV (pc := 87) (kc := kX1_insert) (n := 4) (pl := 1) (ci := 1) (C := RX1) (As := [AI x, AI b, AI d, AI w]) (stk := []) ct_X1_insert (gdV rfl rfl (iw8 _ (List.mem_of_getElem? (i := 14) rfl)) (iw8 _ (List.mem_of_getElem? (i := 15) rfl)) (iw8 _ (List.mem_of_getElem? (i := 16) rfl)) (iw1 _ (List.mem_of_getElem? (i := 15) rfl)) (iw8 _ (List.mem_of_getElem? (i := 17) rfl))) rfl ⟨rfl, rfl⟩ (by decide +kernel) ⟨by decide, by decide⟩ (by decide) rfl rfl dX7_span_87 rfl rfl (Nat.le_of_ble_eq_true rfl) ?_
                refine ⟨_, _, _, _, rfl, by rw [m75]; have q := hpre.1.1.1; exact ⟨by omega, by omega, by omega, by omega, by omega⟩, fun h14 eh14 => ?_⟩
                have frh14 : Fr [2, 3, 5, 6, 7, 8, 9, 10, 11, 12, 13, 14, 15, 16, 17, 18, 19, 20, 21, 22, 23, 24] hi h14 := (Fr.call frh13 eh14.1 (by decide))
                try rw [(eh13.1 2 (by decide) : h13 2 = hi 2)] at eh14
                obtain ⟨p87, f2, w87, q87, r87⟩ := eh14.2
                try rw [m75] at q87 r87
                refine z_iconst (pc := 90) (v := 0) dX7_span_90 rfl ?_
                refine z_iret (pc := 91) rfl dX7_span_91 ?_
                exact hQ 0 h14 ⟨frh14, by first | exact Or.inl ⟨rfl, by omega, rfl⟩ | (refine Or.inr ⟨by omega, ?_⟩; rcases w40 with ⟨q1, q2⟩ | ⟨q1, q2, q3⟩ | ⟨q1, q2, q3⟩ <;> first | exact Or.inl ⟨q1, q2, rfl⟩ | exact Or.inr (Or.inl ⟨q1, q2, q3, rfl⟩) | exact Or.inr (Or.inr (Or.inl ⟨rfl, q2, q3, by omega, rfl⟩)) | exact Or.inr (Or.inr (Or.inr ⟨rfl, q2, q3, by omega, p87, f2, q87, r87, by rw [w87, w75]⟩)) | (exfalso; omega))⟩
              · refine z_iconst (pc := 65) (v := 5) dX7_span_65 rfl ?_
                refine z_iret (pc := 66) rfl dX7_span_66 ?_
                exact hQ 5 hi ⟨(Fr.rf), by first | exact Or.inl ⟨rfl, by omega, rfl⟩ | (refine Or.inr ⟨by omega, ?_⟩; rcases w40 with ⟨q1, q2⟩ | ⟨q1, q2, q3⟩ | ⟨q1, q2, q3⟩ <;> first | exact Or.inl ⟨q1, q2, rfl⟩ | exact Or.inr (Or.inl ⟨q1, q2, q3, rfl⟩) | exact Or.inr (Or.inr (Or.inl ⟨rfl, q2, q3, by omega, rfl⟩)) | exact Or.inr (Or.inr (Or.inr ⟨rfl, q2, q3, by omega, p87, f2, q87, r87, by rw [w87, w75]⟩)) | (exfalso; omega))⟩
            · refine z_iload (pc := 50) dX7_span_50 0 rfl ?_
              refine z_iret (pc := 52) rfl dX7_span_52 ?_
              exact hQ v9 hi ⟨(Fr.rf), by first | exact Or.inl ⟨rfl, by omega, rfl⟩ | (refine Or.inr ⟨by omega, ?_⟩; rcases w40 with ⟨q1, q2⟩ | ⟨q1, q2, q3⟩ | ⟨q1, q2, q3⟩ <;> first | exact Or.inl ⟨q1, q2, rfl⟩ | exact Or.inr (Or.inl ⟨q1, q2, q3, rfl⟩) | exact Or.inr (Or.inr (Or.inl ⟨rfl, q2, q3, by omega, rfl⟩)) | exact Or.inr (Or.inr (Or.inr ⟨rfl, q2, q3, by omega, p87, f2, q87, r87, by rw [w87, w75]⟩)) | (exfalso; omega))⟩
          · refine z_iconst (pc := 33) (v := 1) dX7_span_33 rfl ?_
            refine z_iret (pc := 34) rfl dX7_span_34 ?_
            exact hQ 1 hi ⟨(Fr.rf), by first | exact Or.inl ⟨rfl, by omega, rfl⟩ | (refine Or.inr ⟨by omega, ?_⟩; rcases w40 with ⟨q1, q2⟩ | ⟨q1, q2, q3⟩ | ⟨q1, q2, q3⟩ <;> first | exact Or.inl ⟨q1, q2, rfl⟩ | exact Or.inr (Or.inl ⟨q1, q2, q3, rfl⟩) | exact Or.inr (Or.inr (Or.inl ⟨rfl, q2, q3, by omega, rfl⟩)) | exact Or.inr (Or.inr (Or.inr ⟨rfl, q2, q3, by omega, p87, f2, q87, r87, by rw [w87, w75]⟩)) | (exfalso; omega))⟩

abbrev kX7_born : Kd := (cX7_born, .code yX7_born cX7_born 4 (some .int) :: wsL_law0, rmL 5, RX7, (some .int), 4)
theorem ct_X7_born : Ct kX7_born yX7_born (fun a hi Q => ∃ x : Int, ∃ b : Int, ∃ w : Int, a = [AR 1, AI x, AI b, AI w] ∧ (CI hi ∧ inR x ∧ inR b ∧ inR w) ∧ ∀ (v : Int) (h2 : HI), (Fr [2, 3, 5, 6, 7, 8, 9, 10, 11, 12, 13, 14, 15, 16, 17, 18, 19, 20, 21, 22, 23, 24] hi h2 ∧ (SpP hi h2 x b 64 w v)) → Q (AI v) h2) := by
  refine Ct.of (ws' := _) (by decide +kernel) rfl rfl ?_
  intro a hi Q hT
  obtain ⟨x, b, w, rfl, hpre, hQ⟩ := hT
  refine ⟨Nat.le_of_ble_eq_true rfl, ?_⟩
  show Z kX7_born Q 0 [(0, AR 1), (1, AI x), (2, AI b), (3, AI w)] [] hi
  refine z_aload_n (pc := 0) (x := 1) dX7_born_0 rfl 0 rfl ?_
  refine z_iload_n (pc := 1) dX7_born_1 rfl 1 rfl ?_
  refine z_iload_n (pc := 2) dX7_born_2 rfl 2 rfl ?_
  refine z_bipush (pc := 3) (v := 64) dX7_born_3 (by decide +kernel) ?_
  refine z_iload_n (pc := 5) dX7_born_5 rfl 3 rfl ?_
  refine z_callV (pc := 6) (kc := kX7_span) (n := 4) (pl := 0) (ci := 6) (C := RX7) (As := [AI x, AI b, AI 64, AI w]) (stk := []) ct_X7_span (gdV rfl rfl (iw6 _ (List.mem_of_getElem? (i := 0) rfl)) (iw6 _ (List.mem_of_getElem? (i := 1) rfl)) (iw6 _ (List.mem_of_getElem? (i := 2) rfl)) (iw1 _ (List.mem_of_getElem? (i := 2) rfl)) (iw6 _ (List.mem_of_getElem? (i := 3) rfl))) rfl ⟨rfl, rfl⟩ (by decide +kernel) ⟨by decide, by decide⟩ (by decide) rfl rfl dX7_born_6 rfl rfl (Nat.le_of_ble_eq_true rfl) ?_
  refine ⟨_, _, _, _, rfl, ⟨hpre.1, hpre.2.1, hpre.2.2.1, ⟨by decide, by decide⟩, hpre.2.2.2⟩, fun v1 h2 eh2 => ?_⟩
  have frh2 : Fr [2, 3, 5, 6, 7, 8, 9, 10, 11, 12, 13, 14, 15, 16, 17, 18, 19, 20, 21, 22, 23, 24] hi h2 := (Fr.call (Fr.rf) eh2.1 (by decide))
  have w6 := eh2.2
  refine z_iret (pc := 9) rfl dX7_born_9 ?_
  exact hQ v1 h2 ⟨frh2, w6⟩

abbrev kX7_died : Kd := (cX7_died, .code yX7_died cX7_died 4 (some .int) :: wsL_law0, rmL 5, RX7, (some .int), 4)
theorem ct_X7_died : Ct kX7_died yX7_died (fun a hi Q => ∃ x : Int, ∃ h : Int, a = [AR 1, AI x, AI h] ∧ (CI hi ∧ inR x ∧ inR h) ∧ ∀ (v : Int) (h2 : HI), (Fr [2, 3, 5, 6, 7, 8, 9, 10, 11, 12, 13, 14, 15, 16, 17, 18, 19, 20, 21, 22, 23, 24] hi h2 ∧ ((v = 1 ∧ ¬ ((0 ≤ x ∧ x ≤ 999) ∧ (0 ≤ h ∧ h < 64)) ∧ h2 = hi) ∨ (((0 ≤ x ∧ x ≤ 999) ∧ (0 ≤ h ∧ h < 64)) ∧ ∃ k : Int, Fst (fun z => nO (hi 2) z = x ∧ al (hi 2) z h) (hi 2 1) k ∧ ((k < 0 ∧ v = 2 ∧ h2 = hi) ∨ (0 ≤ k ∧ ChP hi h2 k (bO (hi 2) k) h v))))) → Q (AI v) h2) := by
  refine Ct.of (ws' := _) (by decide +kernel) rfl rfl ?_
  intro a hi Q hT
  obtain ⟨x, h, rfl, hpre, hQ⟩ := hT
  refine ⟨Nat.le_of_ble_eq_true rfl, ?_⟩
  show Z kX7_died Q 0 [(0, AR 1), (1, AI x), (2, AI h)] [] hi
  refine z_iload_n (pc := 0) dX7_died_0 rfl 1 rfl ?_
  refine z_callS (pc := 1) (kc := kX7_isNumber) (n := 1) (As := [AI x]) (stk := []) ct_X7_isNumber (gdS rfl rfl (iw6 _ (List.mem_of_getElem? (i := 4) rfl)) (iw6 _ (List.mem_of_getElem? (i := 5) rfl)) (iw1 _ (List.mem_of_getElem? (i := 2) rfl)) (iw6 _ (List.mem_of_getElem? (i := 6) rfl))) rfl ⟨rfl, rfl⟩ (by decide +kernel) ⟨by decide, by decide⟩ dX7_died_1 rfl rfl (Nat.le_of_ble_eq_true rfl) ?_
  refine ⟨_, rfl, by omega, fun v1 ev1 => ?_⟩
  refine z_if_eq (pc := 4) (tgt := 14) dX7_died_4 (by decide) ⟨by omega, by omega⟩ (fun c2 => ?_) (fun c2 => ?_)
  · refine z_iconst (pc := 14) (v := 1) dX7_died_14 rfl ?_
    refine z_iret (pc := 15) rfl dX7_died_15 ?_
    exact hQ 1 hi ⟨(Fr.rf), by first | exact Or.inl ⟨rfl, by omega, rfl⟩ | exact Or.inr ⟨by omega, _, w22, Or.inl ⟨by omega, rfl, rfl⟩⟩ | exact Or.inr ⟨by omega, _, w22, Or.inr ⟨by omega, w43⟩⟩⟩
  · refine z_iload_n (pc := 7) dX7_died_7 rfl 2 rfl ?_
    refine z_callS (pc := 8) (kc := kX7_isHour) (n := 1) (As := [AI h]) (stk := []) ct_X7_isHour (gdS rfl rfl (iw6 _ (List.mem_of_getElem? (i := 7) rfl)) (iw6 _ (List.mem_of_getElem? (i := 8) rfl)) (iw1 _ (List.mem_of_getElem? (i := 2) rfl)) (iw6 _ (List.mem_of_getElem? (i := 9) rfl))) rfl ⟨rfl, rfl⟩ (by decide +kernel) ⟨by decide, by decide⟩ dX7_died_8 rfl rfl (Nat.le_of_ble_eq_true rfl) ?_
    refine ⟨_, rfl, by omega, fun v3 ev3 => ?_⟩
    refine z_if_ne (pc := 11) (tgt := 16) dX7_died_11 (by decide) ⟨by omega, by omega⟩ (fun c4 => ?_) (fun c4 => ?_)
    · refine z_aload_n (pc := 16) (x := 1) dX7_died_16 rfl 0 rfl ?_
      refine z_getR (pc := 17) (pl := 0) (f := 0) (ci := 6) (C := RX7) (T := TX7) (N := 13) hu_X7 (by decide) rfl rfl (by decide) rfl (List.mem_cons_of_mem _ (iw1 _ (List.mem_of_getElem? (i := 16) rfl))) rfl dX7_died_17 ?_
      refine z_iload_n (pc := 20) dX7_died_20 rfl 1 rfl ?_
      refine z_iload_n (pc := 21) dX7_died_21 rfl 2 rfl ?_
      refine z_callV (pc := 22) (kc := kX1_find) (n := 2) (pl := 1) (ci := 1) (C := RX1) (As := [AI x, AI h]) (stk := []) ct_X1_find (gdV rfl rfl (iw11 _ (List.mem_of_getElem? (i := 18) rfl)) (iw11 _ (List.mem_of_getElem? (i := 19) rfl)) (iw11 _ (List.mem_of_getElem? (i := 20) rfl)) (iw1 _ (List.mem_of_getElem? (i := 15) rfl)) (iw11 _ (List.mem_of_getElem? (i := 21) rfl))) rfl ⟨rfl, rfl⟩ (by decide +kernel) ⟨by decide, by decide⟩ (by decide) rfl rfl dX7_died_22 rfl rfl (Nat.le_of_ble_eq_true rfl) ?_
      refine ⟨_, _, rfl, by have q := hpre.1.1.1; exact ⟨by omega, ⟨by omega, by omega⟩, ⟨by omega, by omega⟩⟩, fun v5 ev5 => ?_⟩
      have w22 := ev5
      have g22 := Fst.rng w22 hpre.1.1.1
      refine z_istore_n (pc := 25) (lv' := [(3, AI v5), (0, AR 1), (1, AI x), (2, AI h)]) dX7_died_25 rfl (by decide) rfl ?_
      refine z_iload_n (pc := 26) dX7_died_26 rfl 0 rfl ?_
      refine z_if_ge (pc := 27) (tgt := 32) dX7_died_27 (by decide) ⟨by omega, by omega⟩ (fun c6 => ?_) (fun c6 => ?_)
      · refine z_aload_n (pc := 32) (x := 1) dX7_died_32 rfl 1 rfl ?_
        refine z_iload_n (pc := 33) dX7_died_33 rfl 0 rfl ?_
        refine z_aload_n (pc := 34) (x := 1) dX7_died_34 rfl 1 rfl ?_
        refine z_getR (pc := 35) (pl := 0) (f := 0) (ci := 6) (C := RX7) (T := TX7) (N := 13) hu_X7 (by decide) rfl rfl (by decide) rfl (List.mem_cons_of_mem _ (iw1 _ (List.mem_of_getElem? (i := 16) rfl))) rfl dX7_died_35 ?_
        refine z_iload_n (pc := 38) dX7_died_38 rfl 0 rfl ?_
        refine z_callV (pc := 39) (kc := kX1_birthOf) (n := 1) (pl := 1) (ci := 1) (C := RX1) (As := [AI v5]) (stk := [AI v5, AR 1]) ct_X1_birthOf (gdV rfl rfl (iw12 _ (List.mem_of_getElem? (i := 2) rfl)) (iw7 _ (List.mem_of_getElem? (i := 10) rfl)) (iw7 _ (List.mem_of_getElem? (i := 11) rfl)) (iw1 _ (List.mem_of_getElem? (i := 15) rfl)) (iw7 _ (List.mem_of_getElem? (i := 12) rfl))) rfl ⟨rfl, rfl⟩ (by decide +kernel) ⟨by decide, by decide⟩ (by decide) rfl rfl dX7_died_39 rfl rfl (Nat.le_of_ble_eq_true rfl) ?_
        refine ⟨_, rfl, by have q := (Fst.pos w22 (by omega)).1; have q2 := hpre.1.1.1; omega, fun v7 ev7 => ?_⟩
        refine z_iload_n (pc := 42) dX7_died_42 rfl 3 rfl ?_
        refine z_callV (pc := 43) (kc := kX7_changeLife) (n := 3) (pl := 0) (ci := 6) (C := RX7) (As := [AI v5, AI v7, AI h]) (stk := []) ct_X7_changeLife (gdV rfl rfl (iw12 _ (List.mem_of_getElem? (i := 3) rfl)) (iw12 _ (List.mem_of_getElem? (i := 4) rfl)) (iw12 _ (List.mem_of_getElem? (i := 5) rfl)) (iw1 _ (List.mem_of_getElem? (i := 2) rfl)) (iw12 _ (List.mem_of_getElem? (i := 6) rfl))) rfl ⟨rfl, rfl⟩ (by decide +kernel) ⟨by decide, by decide⟩ (by decide) rfl rfl dX7_died_43 rfl rfl (Nat.le_of_ble_eq_true rfl) ?_
        refine ⟨_, _, _, rfl, by have q := (Fst.pos w22 (by omega)).1; have q2 := hpre.1.1.1; have q3 := toRng hpre.1.1 ⟨by omega, q⟩; exact ⟨hpre.1, by omega, by omega, by omega, by omega⟩, fun v8 h9 eh9 => ?_⟩
        have frh9 : Fr [2, 3, 5, 6, 7, 8, 9, 10, 11, 12, 13, 14, 15, 16, 17, 18, 19, 20, 21, 22, 23, 24] hi h9 := (Fr.call (Fr.rf) eh9.1 (by decide))
        have w43 := eh9.2
        rw [show v7 = bO (hi 2) v5 by omega] at w43
        refine z_iret (pc := 46) rfl dX7_died_46 ?_
        exact hQ v8 h9 ⟨frh9, by first | exact Or.inl ⟨rfl, by omega, rfl⟩ | exact Or.inr ⟨by omega, _, w22, Or.inl ⟨by omega, rfl, rfl⟩⟩ | exact Or.inr ⟨by omega, _, w22, Or.inr ⟨by omega, w43⟩⟩⟩
      · refine z_iconst (pc := 30) (v := 2) dX7_died_30 rfl ?_
        refine z_iret (pc := 31) rfl dX7_died_31 ?_
        exact hQ 2 hi ⟨(Fr.rf), by first | exact Or.inl ⟨rfl, by omega, rfl⟩ | exact Or.inr ⟨by omega, _, w22, Or.inl ⟨by omega, rfl, rfl⟩⟩ | exact Or.inr ⟨by omega, _, w22, Or.inr ⟨by omega, w43⟩⟩⟩
    · refine z_iconst (pc := 14) (v := 1) dX7_died_14 rfl ?_
      refine z_iret (pc := 15) rfl dX7_died_15 ?_
      exact hQ 1 hi ⟨(Fr.rf), by first | exact Or.inl ⟨rfl, by omega, rfl⟩ | exact Or.inr ⟨by omega, _, w22, Or.inl ⟨by omega, rfl, rfl⟩⟩ | exact Or.inr ⟨by omega, _, w22, Or.inr ⟨by omega, w43⟩⟩⟩

abbrev kX7_unborn : Kd := (cX7_unborn, .code yX7_unborn cX7_unborn 4 (some .int) :: wsL_law0, rmL 5, RX7, (some .int), 4)
theorem ct_X7_unborn : Ct kX7_unborn yX7_unborn (fun a hi Q => ∃ x : Int, ∃ h : Int, a = [AR 1, AI x, AI h] ∧ (CI hi ∧ inR x ∧ inR h) ∧ ∀ (v : Int) (h2 : HI), (Fr [2, 3, 5, 6, 7, 8, 9, 10, 11, 12, 13, 14, 15, 16, 17, 18, 19, 20, 21, 22, 23, 24] hi h2 ∧ ((v = 1 ∧ ¬ ((0 ≤ x ∧ x ≤ 999) ∧ (0 ≤ h ∧ h < 64)) ∧ h2 = hi) ∨ (((0 ≤ x ∧ x ≤ 999) ∧ (0 ≤ h ∧ h < 64)) ∧ ∃ k : Int, Fst (fun z => nO (hi 2) z = x ∧ al (hi 2) z h) (hi 2 1) k ∧ ((k < 0 ∧ v = 2 ∧ h2 = hi) ∨ (0 ≤ k ∧ ChP hi h2 k (bO (hi 2) k) (bO (hi 2) k) v))))) → Q (AI v) h2) := by
  refine Ct.of (ws' := _) (by decide +kernel) rfl rfl ?_
  intro a hi Q hT
  obtain ⟨x, h, rfl, hpre, hQ⟩ := hT
  refine ⟨Nat.le_of_ble_eq_true rfl, ?_⟩
  show Z kX7_unborn Q 0 [(0, AR 1), (1, AI x), (2, AI h)] [] hi
  refine z_iload_n (pc := 0) dX7_unborn_0 rfl 1 rfl ?_
  refine z_callS (pc := 1) (kc := kX7_isNumber) (n := 1) (As := [AI x]) (stk := []) ct_X7_isNumber (gdS rfl rfl (iw6 _ (List.mem_of_getElem? (i := 4) rfl)) (iw6 _ (List.mem_of_getElem? (i := 5) rfl)) (iw1 _ (List.mem_of_getElem? (i := 2) rfl)) (iw6 _ (List.mem_of_getElem? (i := 6) rfl))) rfl ⟨rfl, rfl⟩ (by decide +kernel) ⟨by decide, by decide⟩ dX7_unborn_1 rfl rfl (Nat.le_of_ble_eq_true rfl) ?_
  refine ⟨_, rfl, by omega, fun v1 ev1 => ?_⟩
  refine z_if_eq (pc := 4) (tgt := 14) dX7_unborn_4 (by decide) ⟨by omega, by omega⟩ (fun c2 => ?_) (fun c2 => ?_)
  · refine z_iconst (pc := 14) (v := 1) dX7_unborn_14 rfl ?_
    refine z_iret (pc := 15) rfl dX7_unborn_15 ?_
    exact hQ 1 hi ⟨(Fr.rf), by first | exact Or.inl ⟨rfl, by omega, rfl⟩ | exact Or.inr ⟨by omega, _, w22, Or.inl ⟨by omega, rfl, rfl⟩⟩ | exact Or.inr ⟨by omega, _, w22, Or.inr ⟨by omega, w50⟩⟩⟩
  · refine z_iload_n (pc := 7) dX7_unborn_7 rfl 2 rfl ?_
    refine z_callS (pc := 8) (kc := kX7_isHour) (n := 1) (As := [AI h]) (stk := []) ct_X7_isHour (gdS rfl rfl (iw6 _ (List.mem_of_getElem? (i := 7) rfl)) (iw6 _ (List.mem_of_getElem? (i := 8) rfl)) (iw1 _ (List.mem_of_getElem? (i := 2) rfl)) (iw6 _ (List.mem_of_getElem? (i := 9) rfl))) rfl ⟨rfl, rfl⟩ (by decide +kernel) ⟨by decide, by decide⟩ dX7_unborn_8 rfl rfl (Nat.le_of_ble_eq_true rfl) ?_
    refine ⟨_, rfl, by omega, fun v3 ev3 => ?_⟩
    refine z_if_ne (pc := 11) (tgt := 16) dX7_unborn_11 (by decide) ⟨by omega, by omega⟩ (fun c4 => ?_) (fun c4 => ?_)
    · refine z_aload_n (pc := 16) (x := 1) dX7_unborn_16 rfl 0 rfl ?_
      refine z_getR (pc := 17) (pl := 0) (f := 0) (ci := 6) (C := RX7) (T := TX7) (N := 13) hu_X7 (by decide) rfl rfl (by decide) rfl (List.mem_cons_of_mem _ (iw1 _ (List.mem_of_getElem? (i := 16) rfl))) rfl dX7_unborn_17 ?_
      refine z_iload_n (pc := 20) dX7_unborn_20 rfl 1 rfl ?_
      refine z_iload_n (pc := 21) dX7_unborn_21 rfl 2 rfl ?_
      refine z_callV (pc := 22) (kc := kX1_find) (n := 2) (pl := 1) (ci := 1) (C := RX1) (As := [AI x, AI h]) (stk := []) ct_X1_find (gdV rfl rfl (iw11 _ (List.mem_of_getElem? (i := 18) rfl)) (iw11 _ (List.mem_of_getElem? (i := 19) rfl)) (iw11 _ (List.mem_of_getElem? (i := 20) rfl)) (iw1 _ (List.mem_of_getElem? (i := 15) rfl)) (iw11 _ (List.mem_of_getElem? (i := 21) rfl))) rfl ⟨rfl, rfl⟩ (by decide +kernel) ⟨by decide, by decide⟩ (by decide) rfl rfl dX7_unborn_22 rfl rfl (Nat.le_of_ble_eq_true rfl) ?_
      refine ⟨_, _, rfl, by have q := hpre.1.1.1; exact ⟨by omega, ⟨by omega, by omega⟩, ⟨by omega, by omega⟩⟩, fun v5 ev5 => ?_⟩
      have w22 := ev5
      have g22 := Fst.rng w22 hpre.1.1.1
      refine z_istore_n (pc := 25) (lv' := [(3, AI v5), (0, AR 1), (1, AI x), (2, AI h)]) dX7_unborn_25 rfl (by decide) rfl ?_
      refine z_iload_n (pc := 26) dX7_unborn_26 rfl 0 rfl ?_
      refine z_if_ge (pc := 27) (tgt := 32) dX7_unborn_27 (by decide) ⟨by omega, by omega⟩ (fun c6 => ?_) (fun c6 => ?_)
      · refine z_aload_n (pc := 32) (x := 1) dX7_unborn_32 rfl 1 rfl ?_
        refine z_iload_n (pc := 33) dX7_unborn_33 rfl 0 rfl ?_
        refine z_aload_n (pc := 34) (x := 1) dX7_unborn_34 rfl 1 rfl ?_
        refine z_getR (pc := 35) (pl := 0) (f := 0) (ci := 6) (C := RX7) (T := TX7) (N := 13) hu_X7 (by decide) rfl rfl (by decide) rfl (List.mem_cons_of_mem _ (iw1 _ (List.mem_of_getElem? (i := 16) rfl))) rfl dX7_unborn_35 ?_
        refine z_iload_n (pc := 38) dX7_unborn_38 rfl 0 rfl ?_
        refine z_callV (pc := 39) (kc := kX1_birthOf) (n := 1) (pl := 1) (ci := 1) (C := RX1) (As := [AI v5]) (stk := [AI v5, AR 1]) ct_X1_birthOf (gdV rfl rfl (iw12 _ (List.mem_of_getElem? (i := 2) rfl)) (iw7 _ (List.mem_of_getElem? (i := 10) rfl)) (iw7 _ (List.mem_of_getElem? (i := 11) rfl)) (iw1 _ (List.mem_of_getElem? (i := 15) rfl)) (iw7 _ (List.mem_of_getElem? (i := 12) rfl))) rfl ⟨rfl, rfl⟩ (by decide +kernel) ⟨by decide, by decide⟩ (by decide) rfl rfl dX7_unborn_39 rfl rfl (Nat.le_of_ble_eq_true rfl) ?_
        refine ⟨_, rfl, by have q := (Fst.pos w22 (by omega)).1; have q2 := hpre.1.1.1; omega, fun v7 ev7 => ?_⟩
        refine z_aload_n (pc := 42) (x := 1) dX7_unborn_42 rfl 1 rfl ?_
        refine z_getR (pc := 43) (pl := 0) (f := 0) (ci := 6) (C := RX7) (T := TX7) (N := 13) hu_X7 (by decide) rfl rfl (by decide) rfl (List.mem_cons_of_mem _ (iw1 _ (List.mem_of_getElem? (i := 16) rfl))) rfl dX7_unborn_43 ?_
        refine z_iload_n (pc := 46) dX7_unborn_46 rfl 0 rfl ?_
        refine z_callV (pc := 47) (kc := kX1_birthOf) (n := 1) (pl := 1) (ci := 1) (C := RX1) (As := [AI v5]) (stk := [AI v7, AI v5, AR 1]) ct_X1_birthOf (gdV rfl rfl (iw12 _ (List.mem_of_getElem? (i := 2) rfl)) (iw7 _ (List.mem_of_getElem? (i := 10) rfl)) (iw7 _ (List.mem_of_getElem? (i := 11) rfl)) (iw1 _ (List.mem_of_getElem? (i := 15) rfl)) (iw7 _ (List.mem_of_getElem? (i := 12) rfl))) rfl ⟨rfl, rfl⟩ (by decide +kernel) ⟨by decide, by decide⟩ (by decide) rfl rfl dX7_unborn_47 rfl rfl (Nat.le_of_ble_eq_true rfl) ?_
        refine ⟨_, rfl, by have q := (Fst.pos w22 (by omega)).1; have q2 := hpre.1.1.1; omega, fun v8 ev8 => ?_⟩
        refine z_callV (pc := 50) (kc := kX7_changeLife) (n := 3) (pl := 0) (ci := 6) (C := RX7) (As := [AI v5, AI v7, AI v8]) (stk := []) ct_X7_changeLife (gdV rfl rfl (iw12 _ (List.mem_of_getElem? (i := 3) rfl)) (iw12 _ (List.mem_of_getElem? (i := 4) rfl)) (iw12 _ (List.mem_of_getElem? (i := 5) rfl)) (iw1 _ (List.mem_of_getElem? (i := 2) rfl)) (iw12 _ (List.mem_of_getElem? (i := 6) rfl))) rfl ⟨rfl, rfl⟩ (by decide +kernel) ⟨by decide, by decide⟩ (by decide) rfl rfl dX7_unborn_50 rfl rfl (Nat.le_of_ble_eq_true rfl) ?_
        refine ⟨_, _, _, rfl, by have q := (Fst.pos w22 (by omega)).1; have q2 := hpre.1.1.1; have q3 := toRng hpre.1.1 ⟨by omega, q⟩; exact ⟨hpre.1, by omega, by omega, by omega, by omega⟩, fun v9 h10 eh10 => ?_⟩
        have frh10 : Fr [2, 3, 5, 6, 7, 8, 9, 10, 11, 12, 13, 14, 15, 16, 17, 18, 19, 20, 21, 22, 23, 24] hi h10 := (Fr.call (Fr.rf) eh10.1 (by decide))
        have w50 := eh10.2
        rw [show v7 = bO (hi 2) v5 by omega, show v8 = bO (hi 2) v5 by omega] at w50
        refine z_iret (pc := 53) rfl dX7_unborn_53 ?_
        exact hQ v9 h10 ⟨frh10, by first | exact Or.inl ⟨rfl, by omega, rfl⟩ | exact Or.inr ⟨by omega, _, w22, Or.inl ⟨by omega, rfl, rfl⟩⟩ | exact Or.inr ⟨by omega, _, w22, Or.inr ⟨by omega, w50⟩⟩⟩
      · refine z_iconst (pc := 30) (v := 2) dX7_unborn_30 rfl ?_
        refine z_iret (pc := 31) rfl dX7_unborn_31 ?_
        exact hQ 2 hi ⟨(Fr.rf), by first | exact Or.inl ⟨rfl, by omega, rfl⟩ | exact Or.inr ⟨by omega, _, w22, Or.inl ⟨by omega, rfl, rfl⟩⟩ | exact Or.inr ⟨by omega, _, w22, Or.inr ⟨by omega, w50⟩⟩⟩
    · refine z_iconst (pc := 14) (v := 1) dX7_unborn_14 rfl ?_
      refine z_iret (pc := 15) rfl dX7_unborn_15 ?_
      exact hQ 1 hi ⟨(Fr.rf), by first | exact Or.inl ⟨rfl, by omega, rfl⟩ | exact Or.inr ⟨by omega, _, w22, Or.inl ⟨by omega, rfl, rfl⟩⟩ | exact Or.inr ⟨by omega, _, w22, Or.inr ⟨by omega, w50⟩⟩⟩

abbrev kX7_revived : Kd := (cX7_revived, .code yX7_revived cX7_revived 4 (some .int) :: wsL_law0, rmL 5, RX7, (some .int), 4)
theorem ct_X7_revived : Ct kX7_revived yX7_revived (fun a hi Q => ∃ x : Int, ∃ h : Int, a = [AR 1, AI x, AI h] ∧ (CI hi ∧ inR x ∧ inR h) ∧ ∀ (v : Int) (h2 : HI), (Fr [2, 3, 5, 6, 7, 8, 9, 10, 11, 12, 13, 14, 15, 16, 17, 18, 19, 20, 21, 22, 23, 24] hi h2 ∧ ((v = 1 ∧ ¬ ((0 ≤ x ∧ x ≤ 999) ∧ (1 ≤ h ∧ h < 64)) ∧ h2 = hi) ∨ (((0 ≤ x ∧ x ≤ 999) ∧ (1 ≤ h ∧ h < 64)) ∧ ∃ k : Int, Fst (fun z => nO (hi 2) z = x ∧ dO (hi 2) z = h) (hi 2 1) k ∧ ((k < 0 ∧ v = 2 ∧ h2 = hi) ∨ (0 ≤ k ∧ ChP hi h2 k (bO (hi 2) k) 64 v))))) → Q (AI v) h2) := by
  refine Ct.of (ws' := _) (by decide +kernel) rfl rfl ?_
  intro a hi Q hT
  obtain ⟨x, h, rfl, hpre, hQ⟩ := hT
  refine ⟨Nat.le_of_ble_eq_true rfl, ?_⟩
  show Z kX7_revived Q 0 [(0, AR 1), (1, AI x), (2, AI h)] [] hi
  refine z_iload_n (pc := 0) dX7_revived_0 rfl 1 rfl ?_
  refine z_callS (pc := 1) (kc := kX7_isNumber) (n := 1) (As := [AI x]) (stk := []) ct_X7_isNumber (gdS rfl rfl (iw6 _ (List.mem_of_getElem? (i := 4) rfl)) (iw6 _ (List.mem_of_getElem? (i := 5) rfl)) (iw1 _ (List.mem_of_getElem? (i := 2) rfl)) (iw6 _ (List.mem_of_getElem? (i := 6) rfl))) rfl ⟨rfl, rfl⟩ (by decide +kernel) ⟨by decide, by decide⟩ dX7_revived_1 rfl rfl (Nat.le_of_ble_eq_true rfl) ?_
  refine ⟨_, rfl, by omega, fun v1 ev1 => ?_⟩
  refine z_if_eq (pc := 4) (tgt := 18) dX7_revived_4 (by decide) ⟨by omega, by omega⟩ (fun c2 => ?_) (fun c2 => ?_)
  · refine z_iconst (pc := 18) (v := 1) dX7_revived_18 rfl ?_
    refine z_iret (pc := 19) rfl dX7_revived_19 ?_
    exact hQ 1 hi ⟨(Fr.rf), by first | exact Or.inl ⟨rfl, by omega, rfl⟩ | exact Or.inr ⟨by omega, _, w26, Or.inl ⟨by omega, rfl, rfl⟩⟩ | exact Or.inr ⟨by omega, _, w26, Or.inr ⟨by omega, w48⟩⟩⟩
  · refine z_iload_n (pc := 7) dX7_revived_7 rfl 2 rfl ?_
    refine z_callS (pc := 8) (kc := kX7_isHour) (n := 1) (As := [AI h]) (stk := []) ct_X7_isHour (gdS rfl rfl (iw6 _ (List.mem_of_getElem? (i := 7) rfl)) (iw6 _ (List.mem_of_getElem? (i := 8) rfl)) (iw1 _ (List.mem_of_getElem? (i := 2) rfl)) (iw6 _ (List.mem_of_getElem? (i := 9) rfl))) rfl ⟨rfl, rfl⟩ (by decide +kernel) ⟨by decide, by decide⟩ dX7_revived_8 rfl rfl (Nat.le_of_ble_eq_true rfl) ?_
    refine ⟨_, rfl, by omega, fun v3 ev3 => ?_⟩
    refine z_if_eq (pc := 11) (tgt := 18) dX7_revived_11 (by decide) ⟨by omega, by omega⟩ (fun c4 => ?_) (fun c4 => ?_)
    · refine z_iconst (pc := 18) (v := 1) dX7_revived_18 rfl ?_
      refine z_iret (pc := 19) rfl dX7_revived_19 ?_
      exact hQ 1 hi ⟨(Fr.rf), by first | exact Or.inl ⟨rfl, by omega, rfl⟩ | exact Or.inr ⟨by omega, _, w26, Or.inl ⟨by omega, rfl, rfl⟩⟩ | exact Or.inr ⟨by omega, _, w26, Or.inr ⟨by omega, w48⟩⟩⟩
    · refine z_iload_n (pc := 14) dX7_revived_14 rfl 2 rfl ?_
      refine z_if_ne (pc := 15) (tgt := 20) dX7_revived_15 (by decide) ⟨by omega, by omega⟩ (fun c5 => ?_) (fun c5 => ?_)
      · refine z_aload_n (pc := 20) (x := 1) dX7_revived_20 rfl 0 rfl ?_
        refine z_getR (pc := 21) (pl := 0) (f := 0) (ci := 6) (C := RX7) (T := TX7) (N := 13) hu_X7 (by decide) rfl rfl (by decide) rfl (List.mem_cons_of_mem _ (iw1 _ (List.mem_of_getElem? (i := 16) rfl))) rfl dX7_revived_21 ?_
        refine z_iload_n (pc := 24) dX7_revived_24 rfl 1 rfl ?_
        refine z_iload_n (pc := 25) dX7_revived_25 rfl 2 rfl ?_
        refine z_callV (pc := 26) (kc := kX1_findDeath) (n := 2) (pl := 1) (ci := 1) (C := RX1) (As := [AI x, AI h]) (stk := []) ct_X1_findDeath (gdV rfl rfl (iw13 _ (List.mem_of_getElem? (i := 20) rfl)) (iw13 _ (List.mem_of_getElem? (i := 21) rfl)) (iw13 _ (List.mem_of_getElem? (i := 22) rfl)) (iw1 _ (List.mem_of_getElem? (i := 15) rfl)) (iw13 _ (List.mem_of_getElem? (i := 23) rfl))) rfl ⟨rfl, rfl⟩ (by decide +kernel) ⟨by decide, by decide⟩ (by decide) rfl rfl dX7_revived_26 rfl rfl (Nat.le_of_ble_eq_true rfl) ?_
        refine ⟨_, _, rfl, by have q := hpre.1.1.1; exact ⟨by omega, ⟨by omega, by omega⟩, ⟨by omega, by omega⟩⟩, fun v6 ev6 => ?_⟩
        have w26 := ev6
        have g26 := Fst.rng w26 hpre.1.1.1
        refine z_istore_n (pc := 29) (lv' := [(3, AI v6), (0, AR 1), (1, AI x), (2, AI h)]) dX7_revived_29 rfl (by decide) rfl ?_
        refine z_iload_n (pc := 30) dX7_revived_30 rfl 0 rfl ?_
        refine z_if_ge (pc := 31) (tgt := 36) dX7_revived_31 (by decide) ⟨by omega, by omega⟩ (fun c7 => ?_) (fun c7 => ?_)
        · refine z_aload_n (pc := 36) (x := 1) dX7_revived_36 rfl 1 rfl ?_
          refine z_iload_n (pc := 37) dX7_revived_37 rfl 0 rfl ?_
          refine z_aload_n (pc := 38) (x := 1) dX7_revived_38 rfl 1 rfl ?_
          refine z_getR (pc := 39) (pl := 0) (f := 0) (ci := 6) (C := RX7) (T := TX7) (N := 13) hu_X7 (by decide) rfl rfl (by decide) rfl (List.mem_cons_of_mem _ (iw1 _ (List.mem_of_getElem? (i := 16) rfl))) rfl dX7_revived_39 ?_
          refine z_iload_n (pc := 42) dX7_revived_42 rfl 0 rfl ?_
          refine z_callV (pc := 43) (kc := kX1_birthOf) (n := 1) (pl := 1) (ci := 1) (C := RX1) (As := [AI v6]) (stk := [AI v6, AR 1]) ct_X1_birthOf (gdV rfl rfl (iw12 _ (List.mem_of_getElem? (i := 2) rfl)) (iw7 _ (List.mem_of_getElem? (i := 10) rfl)) (iw7 _ (List.mem_of_getElem? (i := 11) rfl)) (iw1 _ (List.mem_of_getElem? (i := 15) rfl)) (iw7 _ (List.mem_of_getElem? (i := 12) rfl))) rfl ⟨rfl, rfl⟩ (by decide +kernel) ⟨by decide, by decide⟩ (by decide) rfl rfl dX7_revived_43 rfl rfl (Nat.le_of_ble_eq_true rfl) ?_
          refine ⟨_, rfl, by have q := (Fst.pos w26 (by omega)).1; have q2 := hpre.1.1.1; omega, fun v8 ev8 => ?_⟩
          refine z_bipush (pc := 46) (v := 64) dX7_revived_46 (by decide +kernel) ?_
          refine z_callV (pc := 48) (kc := kX7_changeLife) (n := 3) (pl := 0) (ci := 6) (C := RX7) (As := [AI v6, AI v8, AI 64]) (stk := []) ct_X7_changeLife (gdV rfl rfl (iw12 _ (List.mem_of_getElem? (i := 3) rfl)) (iw12 _ (List.mem_of_getElem? (i := 4) rfl)) (iw12 _ (List.mem_of_getElem? (i := 5) rfl)) (iw1 _ (List.mem_of_getElem? (i := 2) rfl)) (iw12 _ (List.mem_of_getElem? (i := 6) rfl))) rfl ⟨rfl, rfl⟩ (by decide +kernel) ⟨by decide, by decide⟩ (by decide) rfl rfl dX7_revived_48 rfl rfl (Nat.le_of_ble_eq_true rfl) ?_
          refine ⟨_, _, _, rfl, by have q := (Fst.pos w26 (by omega)).1; have q2 := hpre.1.1.1; have q3 := toRng hpre.1.1 ⟨by omega, q⟩; exact ⟨hpre.1, by omega, by omega, by omega, by omega⟩, fun v9 h10 eh10 => ?_⟩
          have frh10 : Fr [2, 3, 5, 6, 7, 8, 9, 10, 11, 12, 13, 14, 15, 16, 17, 18, 19, 20, 21, 22, 23, 24] hi h10 := (Fr.call (Fr.rf) eh10.1 (by decide))
          have w48 := eh10.2
          rw [show v8 = bO (hi 2) v6 by omega] at w48
          refine z_iret (pc := 51) rfl dX7_revived_51 ?_
          exact hQ v9 h10 ⟨frh10, by first | exact Or.inl ⟨rfl, by omega, rfl⟩ | exact Or.inr ⟨by omega, _, w26, Or.inl ⟨by omega, rfl, rfl⟩⟩ | exact Or.inr ⟨by omega, _, w26, Or.inr ⟨by omega, w48⟩⟩⟩
        · refine z_iconst (pc := 34) (v := 2) dX7_revived_34 rfl ?_
          refine z_iret (pc := 35) rfl dX7_revived_35 ?_
          exact hQ 2 hi ⟨(Fr.rf), by first | exact Or.inl ⟨rfl, by omega, rfl⟩ | exact Or.inr ⟨by omega, _, w26, Or.inl ⟨by omega, rfl, rfl⟩⟩ | exact Or.inr ⟨by omega, _, w26, Or.inr ⟨by omega, w48⟩⟩⟩
      · refine z_iconst (pc := 18) (v := 1) dX7_revived_18 rfl ?_
        refine z_iret (pc := 19) rfl dX7_revived_19 ?_
        exact hQ 1 hi ⟨(Fr.rf), by first | exact Or.inl ⟨rfl, by omega, rfl⟩ | exact Or.inr ⟨by omega, _, w26, Or.inl ⟨by omega, rfl, rfl⟩⟩ | exact Or.inr ⟨by omega, _, w26, Or.inr ⟨by omega, w48⟩⟩⟩

abbrev kX7_shifted : Kd := (cX7_shifted, .code yX7_shifted cX7_shifted 7 (some .int) :: wsL_law0, rmL 5, RX7, (some .int), 7)
theorem ct_X7_shifted : Ct kX7_shifted yX7_shifted (fun a hi Q => ∃ x : Int, ∃ h : Int, ∃ y : Int, a = [AR 1, AI x, AI h, AI y] ∧ (CI hi ∧ inR x ∧ inR h ∧ inR y) ∧ ∀ (v : Int) (h2 : HI), (Fr [2, 3, 5, 6, 7, 8, 9, 10, 11, 12, 13, 14, 15, 16, 17, 18, 19, 20, 21, 22, 23, 24] hi h2 ∧ ((v = 1 ∧ ¬ ((0 ≤ x ∧ x ≤ 999) ∧ (0 ≤ h ∧ h < 64) ∧ y ≠ 0 ∧ -64 < y ∧ y < 64) ∧ h2 = hi) ∨ (((0 ≤ x ∧ x ≤ 999) ∧ (0 ≤ h ∧ h < 64) ∧ y ≠ 0 ∧ -64 < y ∧ y < 64) ∧ ∃ k : Int, Fst (fun z => nO (hi 2) z = x ∧ al (hi 2) z h) (hi 2 1) k ∧ ((k < 0 ∧ v = 2 ∧ h2 = hi) ∨ (0 ≤ k ∧ ((v = 1 ∧ ¬ ((0 ≤ bO (hi 2) k + y ∧ bO (hi 2) k + y < 64) ∧ (if dO (hi 2) k = 64 then 64 else dO (hi 2) k + y) ≤ 64) ∧ h2 = hi) ∨ (((0 ≤ bO (hi 2) k + y ∧ bO (hi 2) k + y < 64) ∧ (if dO (hi 2) k = 64 then 64 else dO (hi 2) k + y) ≤ 64) ∧ ChP hi h2 k (bO (hi 2) k + y) (if dO (hi 2) k = 64 then 64 else dO (hi 2) k + y) v))))))) → Q (AI v) h2) := by
  refine Ct.of (ws' := _) (by decide +kernel) rfl rfl ?_
  intro a hi Q hT
  obtain ⟨x, h, y, rfl, hpre, hQ⟩ := hT
  refine ⟨Nat.le_of_ble_eq_true rfl, ?_⟩
  show Z kX7_shifted Q 0 [(0, AR 1), (1, AI x), (2, AI h), (3, AI y)] [] hi
  refine z_iload_n (pc := 0) dX7_shifted_0 rfl 1 rfl ?_
  refine z_callS (pc := 1) (kc := kX7_isNumber) (n := 1) (As := [AI x]) (stk := []) ct_X7_isNumber (gdS rfl rfl (iw6 _ (List.mem_of_getElem? (i := 4) rfl)) (iw6 _ (List.mem_of_getElem? (i := 5) rfl)) (iw1 _ (List.mem_of_getElem? (i := 2) rfl)) (iw6 _ (List.mem_of_getElem? (i := 6) rfl))) rfl ⟨rfl, rfl⟩ (by decide +kernel) ⟨by decide, by decide⟩ dX7_shifted_1 rfl rfl (Nat.le_of_ble_eq_true rfl) ?_
  refine ⟨_, rfl, by omega, fun v1 ev1 => ?_⟩
  refine z_if_eq (pc := 4) (tgt := 30) dX7_shifted_4 (by decide) ⟨by omega, by omega⟩ (fun c2 => ?_) (fun c2 => ?_)
  · refine z_iconst (pc := 30) (v := 1) dX7_shifted_30 rfl ?_
    refine z_iret (pc := 31) rfl dX7_shifted_31 ?_
    exact hQ 1 hi ⟨(Fr.rf), by first | exact Or.inl ⟨rfl, by omega, rfl⟩ | exact Or.inr ⟨by omega, _, w38, Or.inl ⟨by omega, rfl, rfl⟩⟩ | exact Or.inr ⟨by omega, _, w38, Or.inr ⟨by omega, by first | exact Or.inl ⟨rfl, (by (split <;> omega)), rfl⟩ | exact Or.inr ⟨(by (split <;> omega)), w119⟩⟩⟩⟩
  · refine z_iload_n (pc := 7) dX7_shifted_7 rfl 2 rfl ?_
    refine z_callS (pc := 8) (kc := kX7_isHour) (n := 1) (As := [AI h]) (stk := []) ct_X7_isHour (gdS rfl rfl (iw6 _ (List.mem_of_getElem? (i := 7) rfl)) (iw6 _ (List.mem_of_getElem? (i := 8) rfl)) (iw1 _ (List.mem_of_getElem? (i := 2) rfl)) (iw6 _ (List.mem_of_getElem? (i := 9) rfl))) rfl ⟨rfl, rfl⟩ (by decide +kernel) ⟨by decide, by decide⟩ dX7_shifted_8 rfl rfl (Nat.le_of_ble_eq_true rfl) ?_
    refine ⟨_, rfl, by omega, fun v3 ev3 => ?_⟩
    refine z_if_eq (pc := 11) (tgt := 30) dX7_shifted_11 (by decide) ⟨by omega, by omega⟩ (fun c4 => ?_) (fun c4 => ?_)
    · refine z_iconst (pc := 30) (v := 1) dX7_shifted_30 rfl ?_
      refine z_iret (pc := 31) rfl dX7_shifted_31 ?_
      exact hQ 1 hi ⟨(Fr.rf), by first | exact Or.inl ⟨rfl, by omega, rfl⟩ | exact Or.inr ⟨by omega, _, w38, Or.inl ⟨by omega, rfl, rfl⟩⟩ | exact Or.inr ⟨by omega, _, w38, Or.inr ⟨by omega, by first | exact Or.inl ⟨rfl, (by (split <;> omega)), rfl⟩ | exact Or.inr ⟨(by (split <;> omega)), w119⟩⟩⟩⟩
    · refine z_iload_n (pc := 14) dX7_shifted_14 rfl 3 rfl ?_
      refine z_if_eq (pc := 15) (tgt := 30) dX7_shifted_15 (by decide) ⟨by omega, by omega⟩ (fun c5 => ?_) (fun c5 => ?_)
      · refine z_iconst (pc := 30) (v := 1) dX7_shifted_30 rfl ?_
        refine z_iret (pc := 31) rfl dX7_shifted_31 ?_
        exact hQ 1 hi ⟨(Fr.rf), by first | exact Or.inl ⟨rfl, by omega, rfl⟩ | exact Or.inr ⟨by omega, _, w38, Or.inl ⟨by omega, rfl, rfl⟩⟩ | exact Or.inr ⟨by omega, _, w38, Or.inr ⟨by omega, by first | exact Or.inl ⟨rfl, (by (split <;> omega)), rfl⟩ | exact Or.inr ⟨(by (split <;> omega)), w119⟩⟩⟩⟩
      · refine z_iload_n (pc := 18) dX7_shifted_18 rfl 3 rfl ?_
        refine z_bipush (pc := 19) (v := (-64)) dX7_shifted_19 (by decide +kernel) ?_
        refine z_icmp_le (pc := 21) (tgt := 30) dX7_shifted_21 (by decide) ⟨by omega, by omega⟩ ⟨by decide, by decide⟩ (fun c6 => ?_) (fun c6 => ?_)
        · refine z_iconst (pc := 30) (v := 1) dX7_shifted_30 rfl ?_
          refine z_iret (pc := 31) rfl dX7_shifted_31 ?_
          exact hQ 1 hi ⟨(Fr.rf), by first | exact Or.inl ⟨rfl, by omega, rfl⟩ | exact Or.inr ⟨by omega, _, w38, Or.inl ⟨by omega, rfl, rfl⟩⟩ | exact Or.inr ⟨by omega, _, w38, Or.inr ⟨by omega, by first | exact Or.inl ⟨rfl, (by (split <;> omega)), rfl⟩ | exact Or.inr ⟨(by (split <;> omega)), w119⟩⟩⟩⟩
        · refine z_iload_n (pc := 24) dX7_shifted_24 rfl 3 rfl ?_
          refine z_bipush (pc := 25) (v := 64) dX7_shifted_25 (by decide +kernel) ?_
          refine z_icmp_lt (pc := 27) (tgt := 32) dX7_shifted_27 (by decide) ⟨by omega, by omega⟩ ⟨by decide, by decide⟩ (fun c7 => ?_) (fun c7 => ?_)
          · refine z_aload_n (pc := 32) (x := 1) dX7_shifted_32 rfl 0 rfl ?_
            refine z_getR (pc := 33) (pl := 0) (f := 0) (ci := 6) (C := RX7) (T := TX7) (N := 13) hu_X7 (by decide) rfl rfl (by decide) rfl (List.mem_cons_of_mem _ (iw1 _ (List.mem_of_getElem? (i := 16) rfl))) rfl dX7_shifted_33 ?_
            refine z_iload_n (pc := 36) dX7_shifted_36 rfl 1 rfl ?_
            refine z_iload_n (pc := 37) dX7_shifted_37 rfl 2 rfl ?_
            refine z_callV (pc := 38) (kc := kX1_find) (n := 2) (pl := 1) (ci := 1) (C := RX1) (As := [AI x, AI h]) (stk := []) ct_X1_find (gdV rfl rfl (iw11 _ (List.mem_of_getElem? (i := 18) rfl)) (iw11 _ (List.mem_of_getElem? (i := 19) rfl)) (iw11 _ (List.mem_of_getElem? (i := 20) rfl)) (iw1 _ (List.mem_of_getElem? (i := 15) rfl)) (iw11 _ (List.mem_of_getElem? (i := 21) rfl))) rfl ⟨rfl, rfl⟩ (by decide +kernel) ⟨by decide, by decide⟩ (by decide) rfl rfl dX7_shifted_38 rfl rfl (Nat.le_of_ble_eq_true rfl) ?_
            refine ⟨_, _, rfl, by have q := hpre.1.1.1; exact ⟨by omega, ⟨by omega, by omega⟩, ⟨by omega, by omega⟩⟩, fun v8 ev8 => ?_⟩
            have w38 := ev8
            have g38 := Fst.rng w38 hpre.1.1.1
            refine z_istore (pc := 41) (lv' := [(4, AI v8), (0, AR 1), (1, AI x), (2, AI h), (3, AI y)]) dX7_shifted_41 (by decide) rfl ?_
            refine z_iload (pc := 43) dX7_shifted_43 0 rfl ?_
            refine z_if_ge (pc := 45) (tgt := 50) dX7_shifted_45 (by decide) ⟨by omega, by omega⟩ (fun c9 => ?_) (fun c9 => ?_)
            · refine z_aload_n (pc := 50) (x := 1) dX7_shifted_50 rfl 1 rfl ?_
              refine z_getR (pc := 51) (pl := 0) (f := 0) (ci := 6) (C := RX7) (T := TX7) (N := 13) hu_X7 (by decide) rfl rfl (by decide) rfl (List.mem_cons_of_mem _ (iw1 _ (List.mem_of_getElem? (i := 16) rfl))) rfl dX7_shifted_51 ?_
              refine z_iload (pc := 54) dX7_shifted_54 0 rfl ?_
              refine z_callV (pc := 56) (kc := kX1_birthOf) (n := 1) (pl := 1) (ci := 1) (C := RX1) (As := [AI v8]) (stk := []) ct_X1_birthOf (gdV rfl rfl (iw12 _ (List.mem_of_getElem? (i := 2) rfl)) (iw7 _ (List.mem_of_getElem? (i := 10) rfl)) (iw7 _ (List.mem_of_getElem? (i := 11) rfl)) (iw1 _ (List.mem_of_getElem? (i := 15) rfl)) (iw7 _ (List.mem_of_getElem? (i := 12) rfl))) rfl ⟨rfl, rfl⟩ (by decide +kernel) ⟨by decide, by decide⟩ (by decide) rfl rfl dX7_shifted_56 rfl rfl (Nat.le_of_ble_eq_true rfl) ?_
              refine ⟨_, rfl, by have q := (Fst.pos w38 (by omega)).1; have q2 := hpre.1.1.1; omega, fun v10 ev10 => ?_⟩
              have r56 := toRng hpre.1.1 ⟨(by omega), (Fst.pos w38 (by omega)).1⟩
              refine z_iload_n (pc := 59) dX7_shifted_59 rfl 4 rfl ?_
              refine z_iadd (pc := 60) dX7_shifted_60 (fun v11 ev11 => ?_)
              refine z_istore (pc := 61) (lv' := [(5, AI v11), (4, AI v8), (0, AR 1), (1, AI x), (2, AI h), (3, AI y)]) dX7_shifted_61 (by decide) rfl ?_
              refine z_aload_n (pc := 63) (x := 1) dX7_shifted_63 rfl 2 rfl ?_
              refine z_getR (pc := 64) (pl := 0) (f := 0) (ci := 6) (C := RX7) (T := TX7) (N := 13) hu_X7 (by decide) rfl rfl (by decide) rfl (List.mem_cons_of_mem _ (iw1 _ (List.mem_of_getElem? (i := 16) rfl))) rfl dX7_shifted_64 ?_
              refine z_iload (pc := 67) dX7_shifted_67 1 rfl ?_
              refine z_callV (pc := 69) (kc := kX1_deathOf) (n := 1) (pl := 1) (ci := 1) (C := RX1) (As := [AI v8]) (stk := []) ct_X1_deathOf (gdV rfl rfl (iw14 _ (List.mem_of_getElem? (i := 8) rfl)) (iw7 _ (List.mem_of_getElem? (i := 14) rfl)) (iw7 _ (List.mem_of_getElem? (i := 15) rfl)) (iw1 _ (List.mem_of_getElem? (i := 15) rfl)) (iw7 _ (List.mem_of_getElem? (i := 16) rfl))) rfl ⟨rfl, rfl⟩ (by decide +kernel) ⟨by decide, by decide⟩ (by decide) rfl rfl dX7_shifted_69 rfl rfl (Nat.le_of_ble_eq_true rfl) ?_
              refine ⟨_, rfl, by have q := (Fst.pos w38 (by omega)).1; have q2 := hpre.1.1.1; omega, fun v12 ev12 => ?_⟩
              refine z_bipush (pc := 72) (v := 64) dX7_shifted_72 (by decide +kernel) ?_
              refine z_icmp_ne (pc := 74) (tgt := 82) dX7_shifted_74 (by decide) ⟨by omega, by omega⟩ ⟨by decide, by decide⟩ (fun c13 => ?_) (fun c13 => ?_)
              · refine z_aload_n (pc := 82) (x := 1) dX7_shifted_82 rfl 2 rfl ?_
                refine z_getR (pc := 83) (pl := 0) (f := 0) (ci := 6) (C := RX7) (T := TX7) (N := 13) hu_X7 (by decide) rfl rfl (by decide) rfl (List.mem_cons_of_mem _ (iw1 _ (List.mem_of_getElem? (i := 16) rfl))) rfl dX7_shifted_83 ?_
                refine z_iload (pc := 86) dX7_shifted_86 1 rfl ?_
                refine z_callV (pc := 88) (kc := kX1_deathOf) (n := 1) (pl := 1) (ci := 1) (C := RX1) (As := [AI v8]) (stk := []) ct_X1_deathOf (gdV rfl rfl (iw14 _ (List.mem_of_getElem? (i := 8) rfl)) (iw7 _ (List.mem_of_getElem? (i := 14) rfl)) (iw7 _ (List.mem_of_getElem? (i := 15) rfl)) (iw1 _ (List.mem_of_getElem? (i := 15) rfl)) (iw7 _ (List.mem_of_getElem? (i := 16) rfl))) rfl ⟨rfl, rfl⟩ (by decide +kernel) ⟨by decide, by decide⟩ (by decide) rfl rfl dX7_shifted_88 rfl rfl (Nat.le_of_ble_eq_true rfl) ?_
                refine ⟨_, rfl, by have q := (Fst.pos w38 (by omega)).1; have q2 := hpre.1.1.1; omega, fun v14 ev14 => ?_⟩
                refine z_iload_n (pc := 91) dX7_shifted_91 rfl 5 rfl ?_
                refine z_iadd (pc := 92) dX7_shifted_92 (fun v15 ev15 => ?_)
                refine z_istore (pc := 93) (lv' := [(6, AI v15), (5, AI v11), (4, AI v8), (0, AR 1), (1, AI x), (2, AI h), (3, AI y)]) dX7_shifted_93 (by decide) rfl ?_
                refine z_iload (pc := 95) dX7_shifted_95 1 rfl ?_
                refine z_callS (pc := 97) (kc := kX7_isHour) (n := 1) (As := [AI v11]) (stk := []) ct_X7_isHour (gdS rfl rfl (iw6 _ (List.mem_of_getElem? (i := 7) rfl)) (iw6 _ (List.mem_of_getElem? (i := 8) rfl)) (iw1 _ (List.mem_of_getElem? (i := 2) rfl)) (iw6 _ (List.mem_of_getElem? (i := 9) rfl))) rfl ⟨rfl, rfl⟩ (by decide +kernel) ⟨by decide, by decide⟩ dX7_shifted_97 rfl rfl (Nat.le_of_ble_eq_true rfl) ?_
                refine ⟨_, rfl, by omega, fun v16 ev16 => ?_⟩
                refine z_if_eq (pc := 100) (tgt := 110) dX7_shifted_100 (by decide) ⟨by omega, by omega⟩ (fun c17 => ?_) (fun c17 => ?_)
                · refine z_iconst (pc := 110) (v := 1) dX7_shifted_110 rfl ?_
                  refine z_iret (pc := 111) rfl dX7_shifted_111 ?_
                  exact hQ 1 hi ⟨(Fr.rf), by first | exact Or.inl ⟨rfl, by omega, rfl⟩ | exact Or.inr ⟨by omega, _, w38, Or.inl ⟨by omega, rfl, rfl⟩⟩ | exact Or.inr ⟨by omega, _, w38, Or.inr ⟨by omega, by first | exact Or.inl ⟨rfl, (by (split <;> omega)), rfl⟩ | exact Or.inr ⟨(by (split <;> omega)), w119⟩⟩⟩⟩
                · refine z_iload (pc := 103) dX7_shifted_103 0 rfl ?_
                  refine z_bipush (pc := 105) (v := 64) dX7_shifted_105 (by decide +kernel) ?_
                  refine z_icmp_le (pc := 107) (tgt := 112) dX7_shifted_107 (by decide) ⟨by omega, by omega⟩ ⟨by decide, by decide⟩ (fun c18 => ?_) (fun c18 => ?_)
                  · refine z_aload_n (pc := 112) (x := 1) dX7_shifted_112 rfl 3 rfl ?_
                    refine z_iload (pc := 113) dX7_shifted_113 2 rfl ?_
                    refine z_iload (pc := 115) dX7_shifted_115 1 rfl ?_
                    refine z_iload (pc := 117) dX7_shifted_117 0 rfl ?_
                    refine z_callV (pc := 119) (kc := kX7_changeLife) (n := 3) (pl := 0) (ci := 6) (C := RX7) (As := [AI v8, AI v11, AI v15]) (stk := []) ct_X7_changeLife (gdV rfl rfl (iw12 _ (List.mem_of_getElem? (i := 3) rfl)) (iw12 _ (List.mem_of_getElem? (i := 4) rfl)) (iw12 _ (List.mem_of_getElem? (i := 5) rfl)) (iw1 _ (List.mem_of_getElem? (i := 2) rfl)) (iw12 _ (List.mem_of_getElem? (i := 6) rfl))) rfl ⟨rfl, rfl⟩ (by decide +kernel) ⟨by decide, by decide⟩ (by decide) rfl rfl dX7_shifted_119 rfl rfl (Nat.le_of_ble_eq_true rfl) ?_
                    refine ⟨_, _, _, rfl, by have q := (Fst.pos w38 (by omega)).1; have q2 := hpre.1.1.1; exact ⟨hpre.1, by omega, by omega, by omega, by omega⟩, fun v19 h20 eh20 => ?_⟩
                    have frh20 : Fr [2, 3, 5, 6, 7, 8, 9, 10, 11, 12, 13, 14, 15, 16, 17, 18, 19, 20, 21, 22, 23, 24] hi h20 := (Fr.call (Fr.rf) eh20.1 (by decide))
                    have w119 := eh20.2
                    rw [show v11 = bO (hi 2) v8 + y by omega, show v15 = (if dO (hi 2) v8 = 64 then 64 else dO (hi 2) v8 + y) by (split <;> omega)] at w119
                    refine z_iret (pc := 122) rfl dX7_shifted_122 ?_
                    exact hQ v19 h20 ⟨frh20, by first | exact Or.inl ⟨rfl, by omega, rfl⟩ | exact Or.inr ⟨by omega, _, w38, Or.inl ⟨by omega, rfl, rfl⟩⟩ | exact Or.inr ⟨by omega, _, w38, Or.inr ⟨by omega, by first | exact Or.inl ⟨rfl, (by (split <;> omega)), rfl⟩ | exact Or.inr ⟨(by (split <;> omega)), w119⟩⟩⟩⟩
                  · refine z_iconst (pc := 110) (v := 1) dX7_shifted_110 rfl ?_
                    refine z_iret (pc := 111) rfl dX7_shifted_111 ?_
                    exact hQ 1 hi ⟨(Fr.rf), by first | exact Or.inl ⟨rfl, by omega, rfl⟩ | exact Or.inr ⟨by omega, _, w38, Or.inl ⟨by omega, rfl, rfl⟩⟩ | exact Or.inr ⟨by omega, _, w38, Or.inr ⟨by omega, by first | exact Or.inl ⟨rfl, (by (split <;> omega)), rfl⟩ | exact Or.inr ⟨(by (split <;> omega)), w119⟩⟩⟩⟩
              · refine z_bipush (pc := 77) (v := 64) dX7_shifted_77 (by decide +kernel) ?_
                refine z_goto (pc := 79) (tgt := 93) dX7_shifted_79 (by decide) ?_
                refine z_istore (pc := 93) (lv' := [(6, AI 64), (5, AI v11), (4, AI v8), (0, AR 1), (1, AI x), (2, AI h), (3, AI y)]) dX7_shifted_93 (by decide) rfl ?_
                refine z_iload (pc := 95) dX7_shifted_95 1 rfl ?_
                refine z_callS (pc := 97) (kc := kX7_isHour) (n := 1) (As := [AI v11]) (stk := []) ct_X7_isHour (gdS rfl rfl (iw6 _ (List.mem_of_getElem? (i := 7) rfl)) (iw6 _ (List.mem_of_getElem? (i := 8) rfl)) (iw1 _ (List.mem_of_getElem? (i := 2) rfl)) (iw6 _ (List.mem_of_getElem? (i := 9) rfl))) rfl ⟨rfl, rfl⟩ (by decide +kernel) ⟨by decide, by decide⟩ dX7_shifted_97 rfl rfl (Nat.le_of_ble_eq_true rfl) ?_
                refine ⟨_, rfl, by omega, fun v21 ev21 => ?_⟩
                refine z_if_eq (pc := 100) (tgt := 110) dX7_shifted_100 (by decide) ⟨by omega, by omega⟩ (fun c22 => ?_) (fun c22 => ?_)
                · refine z_iconst (pc := 110) (v := 1) dX7_shifted_110 rfl ?_
                  refine z_iret (pc := 111) rfl dX7_shifted_111 ?_
                  exact hQ 1 hi ⟨(Fr.rf), by first | exact Or.inl ⟨rfl, by omega, rfl⟩ | exact Or.inr ⟨by omega, _, w38, Or.inl ⟨by omega, rfl, rfl⟩⟩ | exact Or.inr ⟨by omega, _, w38, Or.inr ⟨by omega, by first | exact Or.inl ⟨rfl, (by (split <;> omega)), rfl⟩ | exact Or.inr ⟨(by (split <;> omega)), w119⟩⟩⟩⟩
                · refine z_iload (pc := 103) dX7_shifted_103 0 rfl ?_
                  refine z_bipush (pc := 105) (v := 64) dX7_shifted_105 (by decide +kernel) ?_
                  refine z_icmp_le (pc := 107) (tgt := 112) dX7_shifted_107 (by decide) ⟨by decide, by decide⟩ ⟨by decide, by decide⟩ (fun _ => ?_) (fun q => absurd q (by decide))
                  refine z_aload_n (pc := 112) (x := 1) dX7_shifted_112 rfl 3 rfl ?_
                  refine z_iload (pc := 113) dX7_shifted_113 2 rfl ?_
                  refine z_iload (pc := 115) dX7_shifted_115 1 rfl ?_
                  refine z_iload (pc := 117) dX7_shifted_117 0 rfl ?_
                  refine z_callV (pc := 119) (kc := kX7_changeLife) (n := 3) (pl := 0) (ci := 6) (C := RX7) (As := [AI v8, AI v11, AI 64]) (stk := []) ct_X7_changeLife (gdV rfl rfl (iw12 _ (List.mem_of_getElem? (i := 3) rfl)) (iw12 _ (List.mem_of_getElem? (i := 4) rfl)) (iw12 _ (List.mem_of_getElem? (i := 5) rfl)) (iw1 _ (List.mem_of_getElem? (i := 2) rfl)) (iw12 _ (List.mem_of_getElem? (i := 6) rfl))) rfl ⟨rfl, rfl⟩ (by decide +kernel) ⟨by decide, by decide⟩ (by decide) rfl rfl dX7_shifted_119 rfl rfl (Nat.le_of_ble_eq_true rfl) ?_
                  refine ⟨_, _, _, rfl, by have q := (Fst.pos w38 (by omega)).1; have q2 := hpre.1.1.1; exact ⟨hpre.1, by omega, by omega, by omega, by omega⟩, fun v23 h24 eh24 => ?_⟩
                  have frh24 : Fr [2, 3, 5, 6, 7, 8, 9, 10, 11, 12, 13, 14, 15, 16, 17, 18, 19, 20, 21, 22, 23, 24] hi h24 := (Fr.call (Fr.rf) eh24.1 (by decide))
                  have w119 := eh24.2
                  rw [show v11 = bO (hi 2) v8 + y by omega, show 64 = (if dO (hi 2) v8 = 64 then 64 else dO (hi 2) v8 + y) by (split <;> omega)] at w119
                  refine z_iret (pc := 122) rfl dX7_shifted_122 ?_
                  exact hQ v23 h24 ⟨frh24, by first | exact Or.inl ⟨rfl, by omega, rfl⟩ | exact Or.inr ⟨by omega, _, w38, Or.inl ⟨by omega, rfl, rfl⟩⟩ | exact Or.inr ⟨by omega, _, w38, Or.inr ⟨by omega, by first | exact Or.inl ⟨rfl, (by (split <;> omega)), rfl⟩ | exact Or.inr ⟨(by (split <;> omega)), w119⟩⟩⟩⟩
            · refine z_iconst (pc := 48) (v := 2) dX7_shifted_48 rfl ?_
              refine z_iret (pc := 49) rfl dX7_shifted_49 ?_
              exact hQ 2 hi ⟨(Fr.rf), by first | exact Or.inl ⟨rfl, by omega, rfl⟩ | exact Or.inr ⟨by omega, _, w38, Or.inl ⟨by omega, rfl, rfl⟩⟩ | exact Or.inr ⟨by omega, _, w38, Or.inr ⟨by omega, by first | exact Or.inl ⟨rfl, (by (split <;> omega)), rfl⟩ | exact Or.inr ⟨(by (split <;> omega)), w119⟩⟩⟩⟩
          · refine z_iconst (pc := 30) (v := 1) dX7_shifted_30 rfl ?_
            refine z_iret (pc := 31) rfl dX7_shifted_31 ?_
            exact hQ 1 hi ⟨(Fr.rf), by first | exact Or.inl ⟨rfl, by omega, rfl⟩ | exact Or.inr ⟨by omega, _, w38, Or.inl ⟨by omega, rfl, rfl⟩⟩ | exact Or.inr ⟨by omega, _, w38, Or.inr ⟨by omega, by first | exact Or.inl ⟨rfl, (by (split <;> omega)), rfl⟩ | exact Or.inr ⟨(by (split <;> omega)), w119⟩⟩⟩⟩

abbrev kX7_worthed : Kd := (cX7_worthed, .code yX7_worthed cX7_worthed 5 (some .int) :: wsL_law0, rmL 4, RX7, (some .int), 5)
theorem ct_X7_worthed : Ct kX7_worthed yX7_worthed (fun a hi Q => ∃ x : Int, ∃ h : Int, ∃ w : Int, a = [AR 1, AI x, AI h, AI w] ∧ (CI hi ∧ inR x ∧ inR h ∧ inR w) ∧ ∀ (v : Int) (h2 : HI), (Fr [2, 3, 5, 6, 7, 8, 9, 10, 11, 12, 13, 14, 15, 16, 17, 18, 19, 20, 21, 22, 23, 24] hi h2 ∧ ((v = 1 ∧ ¬ ((0 ≤ x ∧ x ≤ 999) ∧ (0 ≤ h ∧ h < 64) ∧ (0 ≤ w ∧ w ≤ 99)) ∧ h2 = hi) ∨ (((0 ≤ x ∧ x ≤ 999) ∧ (0 ≤ h ∧ h < 64) ∧ (0 ≤ w ∧ w ≤ 99)) ∧ ∃ k : Int, Fst (fun z => nO (hi 2) z = x ∧ al (hi 2) z h) (hi 2 1) k ∧ ((k < 0 ∧ v = 2 ∧ h2 = hi) ∨ (0 ≤ k ∧ ((v = 3 ∧ bO (hi 2) k < hi 2 0 ∧ h2 = hi) ∨ (v = 6 ∧ hi 2 0 ≤ bO (hi 2) k ∧ wO (hi 2) k = w ∧ h2 = hi) ∨ (v = 0 ∧ hi 2 0 ≤ bO (hi 2) k ∧ wO (hi 2) k ≠ w ∧ h2 = hput (RemH hi) 2 (updI (hi 2) (2 + 4 * k.toNat + 3) w)))))))) → Q (AI v) h2) := by
  refine Ct.of (ws' := _) (by decide +kernel) rfl rfl ?_
  intro a hi Q hT
  obtain ⟨x, h, w, rfl, hpre, hQ⟩ := hT
  refine ⟨Nat.le_of_ble_eq_true rfl, ?_⟩
  show Z kX7_worthed Q 0 [(0, AR 1), (1, AI x), (2, AI h), (3, AI w)] [] hi
  refine z_iload_n (pc := 0) dX7_worthed_0 rfl 1 rfl ?_
  refine z_callS (pc := 1) (kc := kX7_isNumber) (n := 1) (As := [AI x]) (stk := []) ct_X7_isNumber (gdS rfl rfl (iw6 _ (List.mem_of_getElem? (i := 4) rfl)) (iw6 _ (List.mem_of_getElem? (i := 5) rfl)) (iw1 _ (List.mem_of_getElem? (i := 2) rfl)) (iw6 _ (List.mem_of_getElem? (i := 6) rfl))) rfl ⟨rfl, rfl⟩ (by decide +kernel) ⟨by decide, by decide⟩ dX7_worthed_1 rfl rfl (Nat.le_of_ble_eq_true rfl) ?_
  refine ⟨_, rfl, by omega, fun v1 ev1 => ?_⟩
  refine z_if_eq (pc := 4) (tgt := 21) dX7_worthed_4 (by decide) ⟨by omega, by omega⟩ (fun c2 => ?_) (fun c2 => ?_)
  · refine z_iconst (pc := 21) (v := 1) dX7_worthed_21 rfl ?_
    refine z_iret (pc := 22) rfl dX7_worthed_22 ?_
    exact hQ 1 hi ⟨(Fr.rf), by first | exact Or.inl ⟨rfl, by omega, rfl⟩ | exact Or.inr ⟨by omega, _, w29, Or.inl ⟨by omega, rfl, rfl⟩⟩ | exact Or.inr ⟨by omega, _, w29, Or.inr ⟨by omega, by first | exact Or.inl ⟨rfl, by omega, rfl⟩ | exact Or.inr (Or.inl ⟨rfl, by omega, by omega, rfl⟩) | exact Or.inr (Or.inr ⟨rfl, by omega, by omega, by rw [w96, w86]⟩)⟩⟩⟩
  · refine z_iload_n (pc := 7) dX7_worthed_7 rfl 2 rfl ?_
    refine z_callS (pc := 8) (kc := kX7_isHour) (n := 1) (As := [AI h]) (stk := []) ct_X7_isHour (gdS rfl rfl (iw6 _ (List.mem_of_getElem? (i := 7) rfl)) (iw6 _ (List.mem_of_getElem? (i := 8) rfl)) (iw1 _ (List.mem_of_getElem? (i := 2) rfl)) (iw6 _ (List.mem_of_getElem? (i := 9) rfl))) rfl ⟨rfl, rfl⟩ (by decide +kernel) ⟨by decide, by decide⟩ dX7_worthed_8 rfl rfl (Nat.le_of_ble_eq_true rfl) ?_
    refine ⟨_, rfl, by omega, fun v3 ev3 => ?_⟩
    refine z_if_eq (pc := 11) (tgt := 21) dX7_worthed_11 (by decide) ⟨by omega, by omega⟩ (fun c4 => ?_) (fun c4 => ?_)
    · refine z_iconst (pc := 21) (v := 1) dX7_worthed_21 rfl ?_
      refine z_iret (pc := 22) rfl dX7_worthed_22 ?_
      exact hQ 1 hi ⟨(Fr.rf), by first | exact Or.inl ⟨rfl, by omega, rfl⟩ | exact Or.inr ⟨by omega, _, w29, Or.inl ⟨by omega, rfl, rfl⟩⟩ | exact Or.inr ⟨by omega, _, w29, Or.inr ⟨by omega, by first | exact Or.inl ⟨rfl, by omega, rfl⟩ | exact Or.inr (Or.inl ⟨rfl, by omega, by omega, rfl⟩) | exact Or.inr (Or.inr ⟨rfl, by omega, by omega, by rw [w96, w86]⟩)⟩⟩⟩
    · refine z_iload_n (pc := 14) dX7_worthed_14 rfl 3 rfl ?_
      refine z_callS (pc := 15) (kc := kX7_isWorth) (n := 1) (As := [AI w]) (stk := []) ct_X7_isWorth (gdS rfl rfl (iw6 _ (List.mem_of_getElem? (i := 10) rfl)) (iw6 _ (List.mem_of_getElem? (i := 11) rfl)) (iw1 _ (List.mem_of_getElem? (i := 2) rfl)) (iw6 _ (List.mem_of_getElem? (i := 12) rfl))) rfl ⟨rfl, rfl⟩ (by decide +kernel) ⟨by decide, by decide⟩ dX7_worthed_15 rfl rfl (Nat.le_of_ble_eq_true rfl) ?_
      refine ⟨_, rfl, by omega, fun v5 ev5 => ?_⟩
      refine z_if_ne (pc := 18) (tgt := 23) dX7_worthed_18 (by decide) ⟨by omega, by omega⟩ (fun c6 => ?_) (fun c6 => ?_)
      · refine z_aload_n (pc := 23) (x := 1) dX7_worthed_23 rfl 0 rfl ?_
        refine z_getR (pc := 24) (pl := 0) (f := 0) (ci := 6) (C := RX7) (T := TX7) (N := 13) hu_X7 (by decide) rfl rfl (by decide) rfl (List.mem_cons_of_mem _ (iw1 _ (List.mem_of_getElem? (i := 16) rfl))) rfl dX7_worthed_24 ?_
        refine z_iload_n (pc := 27) dX7_worthed_27 rfl 1 rfl ?_
        refine z_iload_n (pc := 28) dX7_worthed_28 rfl 2 rfl ?_
        refine z_callV (pc := 29) (kc := kX1_find) (n := 2) (pl := 1) (ci := 1) (C := RX1) (As := [AI x, AI h]) (stk := []) ct_X1_find (gdV rfl rfl (iw11 _ (List.mem_of_getElem? (i := 18) rfl)) (iw11 _ (List.mem_of_getElem? (i := 19) rfl)) (iw11 _ (List.mem_of_getElem? (i := 20) rfl)) (iw1 _ (List.mem_of_getElem? (i := 15) rfl)) (iw11 _ (List.mem_of_getElem? (i := 21) rfl))) rfl ⟨rfl, rfl⟩ (by decide +kernel) ⟨by decide, by decide⟩ (by decide) rfl rfl dX7_worthed_29 rfl rfl (Nat.le_of_ble_eq_true rfl) ?_
        refine ⟨_, _, rfl, by have q := hpre.1.1.1; exact ⟨by omega, ⟨by omega, by omega⟩, ⟨by omega, by omega⟩⟩, fun v7 ev7 => ?_⟩
        have w29 := ev7
        have g29 := Fst.rng w29 hpre.1.1.1
        refine z_istore (pc := 32) (lv' := [(4, AI v7), (0, AR 1), (1, AI x), (2, AI h), (3, AI w)]) dX7_worthed_32 (by decide) rfl ?_
        refine z_iload (pc := 34) dX7_worthed_34 0 rfl ?_
        refine z_if_ge (pc := 36) (tgt := 41) dX7_worthed_36 (by decide) ⟨by omega, by omega⟩ (fun c8 => ?_) (fun c8 => ?_)
        · refine z_aload_n (pc := 41) (x := 1) dX7_worthed_41 rfl 1 rfl ?_
          refine z_getR (pc := 42) (pl := 0) (f := 0) (ci := 6) (C := RX7) (T := TX7) (N := 13) hu_X7 (by decide) rfl rfl (by decide) rfl (List.mem_cons_of_mem _ (iw1 _ (List.mem_of_getElem? (i := 16) rfl))) rfl dX7_worthed_42 ?_
          refine z_iload (pc := 45) dX7_worthed_45 0 rfl ?_
          refine z_callV (pc := 47) (kc := kX1_birthOf) (n := 1) (pl := 1) (ci := 1) (C := RX1) (As := [AI v7]) (stk := []) ct_X1_birthOf (gdV rfl rfl (iw12 _ (List.mem_of_getElem? (i := 2) rfl)) (iw7 _ (List.mem_of_getElem? (i := 10) rfl)) (iw7 _ (List.mem_of_getElem? (i := 11) rfl)) (iw1 _ (List.mem_of_getElem? (i := 15) rfl)) (iw7 _ (List.mem_of_getElem? (i := 12) rfl))) rfl ⟨rfl, rfl⟩ (by decide +kernel) ⟨by decide, by decide⟩ (by decide) rfl rfl dX7_worthed_47 rfl rfl (Nat.le_of_ble_eq_true rfl) ?_
          refine ⟨_, rfl, by have q := (Fst.pos w29 (by omega)).1; have q2 := hpre.1.1.1; omega, fun v9 ev9 => ?_⟩
          refine z_aload_n (pc := 50) (x := 1) dX7_worthed_50 rfl 1 rfl ?_
          refine z_getR (pc := 51) (pl := 0) (f := 0) (ci := 6) (C := RX7) (T := TX7) (N := 13) hu_X7 (by decide) rfl rfl (by decide) rfl (List.mem_cons_of_mem _ (iw1 _ (List.mem_of_getElem? (i := 16) rfl))) rfl dX7_worthed_51 ?_
          refine z_callV (pc := 54) (kc := kX1_lockHour) (n := 0) (pl := 1) (ci := 1) (C := RX1) (As := []) (stk := [AI v9]) ct_X1_lockHour (gdV rfl rfl (iw7 _ (List.mem_of_getElem? (i := 17) rfl)) (iw7 _ (List.mem_of_getElem? (i := 18) rfl)) (iw7 _ (List.mem_of_getElem? (i := 19) rfl)) (iw1 _ (List.mem_of_getElem? (i := 15) rfl)) (iw7 _ (List.mem_of_getElem? (i := 20) rfl))) rfl ⟨rfl, rfl⟩ (by decide +kernel) ⟨by decide, by decide⟩ (by decide) rfl rfl dX7_worthed_54 rfl rfl (Nat.le_of_ble_eq_true rfl) ?_
          refine ⟨rfl, trivial, fun v10 ev10 => ?_⟩
          refine z_icmp_ge (pc := 57) (tgt := 62) dX7_worthed_57 (by decide) ⟨by omega, by omega⟩ ⟨by omega, by omega⟩ (fun c11 => ?_) (fun c11 => ?_)
          · refine z_aload_n (pc := 62) (x := 1) dX7_worthed_62 rfl 1 rfl ?_
            refine z_getR (pc := 63) (pl := 0) (f := 0) (ci := 6) (C := RX7) (T := TX7) (N := 13) hu_X7 (by decide) rfl rfl (by decide) rfl (List.mem_cons_of_mem _ (iw1 _ (List.mem_of_getElem? (i := 16) rfl))) rfl dX7_worthed_63 ?_
            refine z_iload (pc := 66) dX7_worthed_66 0 rfl ?_
            refine z_callV (pc := 68) (kc := kX1_worthOf) (n := 1) (pl := 1) (ci := 1) (C := RX1) (As := [AI v7]) (stk := []) ct_X1_worthOf (gdV rfl rfl (iw12 _ (List.mem_of_getElem? (i := 8) rfl)) (iw12 _ (List.mem_of_getElem? (i := 9) rfl)) (iw12 _ (List.mem_of_getElem? (i := 10) rfl)) (iw1 _ (List.mem_of_getElem? (i := 15) rfl)) (iw12 _ (List.mem_of_getElem? (i := 11) rfl))) rfl ⟨rfl, rfl⟩ (by decide +kernel) ⟨by decide, by decide⟩ (by decide) rfl rfl dX7_worthed_68 rfl rfl (Nat.le_of_ble_eq_true rfl) ?_
            refine ⟨_, rfl, by have q := (Fst.pos w29 (by omega)).1; have q2 := hpre.1.1.1; omega, fun v12 ev12 => ?_⟩
            refine z_iload_n (pc := 71) dX7_worthed_71 rfl 4 rfl ?_
            refine z_icmp_ne (pc := 72) (tgt := 78) dX7_worthed_72 (by decide) ⟨by omega, by omega⟩ ⟨by omega, by omega⟩ (fun c13 => ?_) (fun c13 => ?_)
            · refine z_aload_n (pc := 78) (x := 1) dX7_worthed_78 rfl 1 rfl ?_
              refine z_getR (pc := 79) (pl := 0) (f := 1) (ci := 6) (C := RX7) (T := TX7) (N := 13) hu_X7 (by decide) rfl rfl (by decide) rfl (List.mem_cons_of_mem _ (iw1 _ (List.mem_of_getElem? (i := 20) rfl))) rfl dX7_worthed_79 ?_
              refine z_aload_n (pc := 82) (x := 1) dX7_worthed_82 rfl 1 rfl ?_
              refine z_getR (pc := 83) (pl := 0) (f := 0) (ci := 6) (C := RX7) (T := TX7) (N := 13) hu_X7 (by decide) rfl rfl (by decide) rfl (List.mem_cons_of_mem _ (iw1 _ (List.mem_of_getElem? (i := 16) rfl))) rfl dX7_worthed_83 ?_
              refine z_callV (pc := 86) (kc := kX3_remember) (n := 1) (pl := 3) (ci := 3) (C := RX3) (As := [AR 2]) (stk := []) ct_X3_remember (gdV rfl rfl (iw7 _ (List.mem_of_getElem? (i := 22) rfl)) (iw7 _ (List.mem_of_getElem? (i := 23) rfl)) (iw8 _ (List.mem_of_getElem? (i := 0) rfl)) (iw1 _ (List.mem_of_getElem? (i := 19) rfl)) (iw8 _ (List.mem_of_getElem? (i := 1) rfl))) rfl ⟨rfl, rfl⟩ (by decide +kernel) ⟨by decide, by decide⟩ (by decide) rfl rfl dX7_worthed_86 rfl rfl (Nat.le_of_ble_eq_true rfl) ?_
              refine ⟨rfl, ⟨hpre.1.2.2.1, hpre.1.2.2.2⟩, fun h14 eh14 => ?_⟩
              have frh14 : Fr [2, 3, 5, 6, 7, 8, 9, 10, 11, 12, 13, 14, 15, 16, 17, 18, 19, 20, 21, 22, 23, 24] hi h14 := (Fr.call (Fr.rf) eh14.1 (by decide))
              have w86 := eh14.2
              have m86 : h14 2 = hi 2 := by rw [w86]; exact RemH_2 hi
              refine z_aload_n (pc := 89) (x := 1) dX7_worthed_89 rfl 1 rfl ?_
              refine z_getR (pc := 90) (pl := 0) (f := 0) (ci := 6) (C := RX7) (T := TX7) (N := 13) hu_X7 (by decide) rfl rfl (by decide) rfl (List.mem_cons_of_mem _ (iw1 _ (List.mem_of_getElem? (i := 16) rfl))) rfl dX7_worthed_90 ?_
              refine z_iload (pc := 93) dX7_worthed_93 0 rfl ?_
              refine z_iload_n (pc := 95) dX7_worthed_95 rfl 4 rfl ?_
              refine z_callV (pc := 96) (kc := kX1_setWorth) (n := 2) (pl := 1) (ci := 1) (C := RX1) (As := [AI v7, AI w]) (stk := []) ct_X1_setWorth (gdV rfl rfl (iw14 _ (List.mem_of_getElem? (i := 18) rfl)) (iw14 _ (List.mem_of_getElem? (i := 19) rfl)) (iw14 _ (List.mem_of_getElem? (i := 20) rfl)) (iw1 _ (List.mem_of_getElem? (i := 15) rfl)) (iw14 _ (List.mem_of_getElem? (i := 21) rfl))) rfl ⟨rfl, rfl⟩ (by decide +kernel) ⟨by decide, by decide⟩ (by decide) rfl rfl dX7_worthed_96 rfl rfl (Nat.le_of_ble_eq_true rfl) ?_
              refine ⟨_, _, rfl, by have q := (Fst.pos w29 (by omega)).1; have q2 := hpre.1.1.1; exact ⟨by omega, by omega, by omega⟩, fun h15 eh15 => ?_⟩
              have frh15 : Fr [2, 3, 5, 6, 7, 8, 9, 10, 11, 12, 13, 14, 15, 16, 17, 18, 19, 20, 21, 22, 23, 24] hi h15 := (Fr.call frh14 eh15.1 (by decide))
              try rw [(eh14.1 2 (by decide) : h14 2 = hi 2)] at eh15
              have w96 := eh15.2
              refine z_iconst (pc := 99) (v := 0) dX7_worthed_99 rfl ?_
              refine z_iret (pc := 100) rfl dX7_worthed_100 ?_
              exact hQ 0 h15 ⟨frh15, by first | exact Or.inl ⟨rfl, by omega, rfl⟩ | exact Or.inr ⟨by omega, _, w29, Or.inl ⟨by omega, rfl, rfl⟩⟩ | exact Or.inr ⟨by omega, _, w29, Or.inr ⟨by omega, by first | exact Or.inl ⟨rfl, by omega, rfl⟩ | exact Or.inr (Or.inl ⟨rfl, by omega, by omega, rfl⟩) | exact Or.inr (Or.inr ⟨rfl, by omega, by omega, by rw [w96, w86]⟩)⟩⟩⟩
            · refine z_bipush (pc := 75) (v := 6) dX7_worthed_75 (by decide +kernel) ?_
              refine z_iret (pc := 77) rfl dX7_worthed_77 ?_
              exact hQ 6 hi ⟨(Fr.rf), by first | exact Or.inl ⟨rfl, by omega, rfl⟩ | exact Or.inr ⟨by omega, _, w29, Or.inl ⟨by omega, rfl, rfl⟩⟩ | exact Or.inr ⟨by omega, _, w29, Or.inr ⟨by omega, by first | exact Or.inl ⟨rfl, by omega, rfl⟩ | exact Or.inr (Or.inl ⟨rfl, by omega, by omega, rfl⟩) | exact Or.inr (Or.inr ⟨rfl, by omega, by omega, by rw [w96, w86]⟩)⟩⟩⟩
          · refine z_iconst (pc := 60) (v := 3) dX7_worthed_60 rfl ?_
            refine z_iret (pc := 61) rfl dX7_worthed_61 ?_
            exact hQ 3 hi ⟨(Fr.rf), by first | exact Or.inl ⟨rfl, by omega, rfl⟩ | exact Or.inr ⟨by omega, _, w29, Or.inl ⟨by omega, rfl, rfl⟩⟩ | exact Or.inr ⟨by omega, _, w29, Or.inr ⟨by omega, by first | exact Or.inl ⟨rfl, by omega, rfl⟩ | exact Or.inr (Or.inl ⟨rfl, by omega, by omega, rfl⟩) | exact Or.inr (Or.inr ⟨rfl, by omega, by omega, by rw [w96, w86]⟩)⟩⟩⟩
        · refine z_iconst (pc := 39) (v := 2) dX7_worthed_39 rfl ?_
          refine z_iret (pc := 40) rfl dX7_worthed_40 ?_
          exact hQ 2 hi ⟨(Fr.rf), by first | exact Or.inl ⟨rfl, by omega, rfl⟩ | exact Or.inr ⟨by omega, _, w29, Or.inl ⟨by omega, rfl, rfl⟩⟩ | exact Or.inr ⟨by omega, _, w29, Or.inr ⟨by omega, by first | exact Or.inl ⟨rfl, by omega, rfl⟩ | exact Or.inr (Or.inl ⟨rfl, by omega, by omega, rfl⟩) | exact Or.inr (Or.inr ⟨rfl, by omega, by omega, by rw [w96, w86]⟩)⟩⟩⟩
      · refine z_iconst (pc := 21) (v := 1) dX7_worthed_21 rfl ?_
        refine z_iret (pc := 22) rfl dX7_worthed_22 ?_
        exact hQ 1 hi ⟨(Fr.rf), by first | exact Or.inl ⟨rfl, by omega, rfl⟩ | exact Or.inr ⟨by omega, _, w29, Or.inl ⟨by omega, rfl, rfl⟩⟩ | exact Or.inr ⟨by omega, _, w29, Or.inr ⟨by omega, by first | exact Or.inl ⟨rfl, by omega, rfl⟩ | exact Or.inr (Or.inl ⟨rfl, by omega, by omega, rfl⟩) | exact Or.inr (Or.inr ⟨rfl, by omega, by omega, by rw [w96, w86]⟩)⟩⟩⟩

abbrev kX7_lock : Kd := (cX7_lock, .code yX7_lock cX7_lock 3 (some .int) :: wsL_law0, rmL 2, RX7, (some .int), 3)
theorem ct_X7_lock : Ct kX7_lock yX7_lock (fun a hi Q => ∃ x : Int, a = [AR 1, AI x] ∧ (inR x) ∧ ∀ (v : Int) (h2 : HI), (Fr [2] hi h2 ∧ ((v = -1 ∧ ¬ (0 ≤ x ∧ x ≤ 64) ∧ h2 = hi) ∨ ((0 ≤ x ∧ x ≤ 64) ∧ v = hi 2 0 ∧ h2 = hput hi 2 (updI (hi 2) 0 x)))) → Q (AI v) h2) := by
  refine Ct.of (ws' := _) (by decide +kernel) rfl rfl ?_
  intro a hi Q hT
  obtain ⟨x, rfl, hpre, hQ⟩ := hT
  refine ⟨Nat.le_of_ble_eq_true rfl, ?_⟩
  show Z kX7_lock Q 0 [(0, AR 1), (1, AI x)] [] hi
  refine z_iload_n (pc := 0) dX7_lock_0 rfl 1 rfl ?_
  refine z_callS (pc := 1) (kc := kX7_isHour) (n := 1) (As := [AI x]) (stk := []) ct_X7_isHour (gdS rfl rfl (iw6 _ (List.mem_of_getElem? (i := 7) rfl)) (iw6 _ (List.mem_of_getElem? (i := 8) rfl)) (iw1 _ (List.mem_of_getElem? (i := 2) rfl)) (iw6 _ (List.mem_of_getElem? (i := 9) rfl))) rfl ⟨rfl, rfl⟩ (by decide +kernel) ⟨by decide, by decide⟩ dX7_lock_1 rfl rfl (Nat.le_of_ble_eq_true rfl) ?_
  refine ⟨_, rfl, by omega, fun v1 ev1 => ?_⟩
  refine z_if_ne (pc := 4) (tgt := 15) dX7_lock_4 (by decide) ⟨by omega, by omega⟩ (fun c2 => ?_) (fun c2 => ?_)
  · refine z_aload_n (pc := 15) (x := 1) dX7_lock_15 rfl 0 rfl ?_
    refine z_getR (pc := 16) (pl := 0) (f := 0) (ci := 6) (C := RX7) (T := TX7) (N := 13) hu_X7 (by decide) rfl rfl (by decide) rfl (List.mem_cons_of_mem _ (iw1 _ (List.mem_of_getElem? (i := 16) rfl))) rfl dX7_lock_16 ?_
    refine z_callV (pc := 19) (kc := kX1_lockHour) (n := 0) (pl := 1) (ci := 1) (C := RX1) (As := []) (stk := []) ct_X1_lockHour (gdV rfl rfl (iw7 _ (List.mem_of_getElem? (i := 17) rfl)) (iw7 _ (List.mem_of_getElem? (i := 18) rfl)) (iw7 _ (List.mem_of_getElem? (i := 19) rfl)) (iw1 _ (List.mem_of_getElem? (i := 15) rfl)) (iw7 _ (List.mem_of_getElem? (i := 20) rfl))) rfl ⟨rfl, rfl⟩ (by decide +kernel) ⟨by decide, by decide⟩ (by decide) rfl rfl dX7_lock_19 rfl rfl (Nat.le_of_ble_eq_true rfl) ?_
    refine ⟨rfl, trivial, fun v3 ev3 => ?_⟩
    refine z_istore_n (pc := 22) (lv' := [(2, AI v3), (0, AR 1), (1, AI x)]) dX7_lock_22 rfl (by decide) rfl ?_
    refine z_aload_n (pc := 23) (x := 1) dX7_lock_23 rfl 1 rfl ?_
    refine z_getR (pc := 24) (pl := 0) (f := 0) (ci := 6) (C := RX7) (T := TX7) (N := 13) hu_X7 (by decide) rfl rfl (by decide) rfl (List.mem_cons_of_mem _ (iw1 _ (List.mem_of_getElem? (i := 16) rfl))) rfl dX7_lock_24 ?_
    refine z_iload_n (pc := 27) dX7_lock_27 rfl 2 rfl ?_
    refine z_callV (pc := 28) (kc := kX1_setLock) (n := 1) (pl := 1) (ci := 1) (C := RX1) (As := [AI x]) (stk := []) ct_X1_setLock (gdV rfl rfl (iw15 _ (List.mem_of_getElem? (i := 6) rfl)) (iw15 _ (List.mem_of_getElem? (i := 7) rfl)) (iw15 _ (List.mem_of_getElem? (i := 8) rfl)) (iw1 _ (List.mem_of_getElem? (i := 15) rfl)) (iw15 _ (List.mem_of_getElem? (i := 9) rfl))) rfl ⟨rfl, rfl⟩ (by decide +kernel) ⟨by decide, by decide⟩ (by decide) rfl rfl dX7_lock_28 rfl rfl (Nat.le_of_ble_eq_true rfl) ?_
    refine ⟨_, rfl, by omega, fun h4 eh4 => ?_⟩
    have frh4 : Fr [2] hi h4 := (Fr.call (Fr.rf) eh4.1 (by decide))
    refine z_iload_n (pc := 31) dX7_lock_31 rfl 0 rfl ?_
    refine z_iret (pc := 32) rfl dX7_lock_32 ?_
    exact hQ v3 h4 ⟨frh4, by first | exact Or.inl ⟨rfl, by omega, rfl⟩ | exact Or.inr ⟨by omega, by omega, eh4.2⟩⟩
  · refine z_iload_n (pc := 7) dX7_lock_7 rfl 1 rfl ?_
    refine z_bipush (pc := 8) (v := 64) dX7_lock_8 (by decide +kernel) ?_
    refine z_icmp_eq (pc := 10) (tgt := 15) dX7_lock_10 (by decide) ⟨by omega, by omega⟩ ⟨by decide, by decide⟩ (fun c5 => ?_) (fun c5 => ?_)
    · refine z_aload_n (pc := 15) (x := 1) dX7_lock_15 rfl 0 rfl ?_
      refine z_getR (pc := 16) (pl := 0) (f := 0) (ci := 6) (C := RX7) (T := TX7) (N := 13) hu_X7 (by decide) rfl rfl (by decide) rfl (List.mem_cons_of_mem _ (iw1 _ (List.mem_of_getElem? (i := 16) rfl))) rfl dX7_lock_16 ?_
      refine z_callV (pc := 19) (kc := kX1_lockHour) (n := 0) (pl := 1) (ci := 1) (C := RX1) (As := []) (stk := []) ct_X1_lockHour (gdV rfl rfl (iw7 _ (List.mem_of_getElem? (i := 17) rfl)) (iw7 _ (List.mem_of_getElem? (i := 18) rfl)) (iw7 _ (List.mem_of_getElem? (i := 19) rfl)) (iw1 _ (List.mem_of_getElem? (i := 15) rfl)) (iw7 _ (List.mem_of_getElem? (i := 20) rfl))) rfl ⟨rfl, rfl⟩ (by decide +kernel) ⟨by decide, by decide⟩ (by decide) rfl rfl dX7_lock_19 rfl rfl (Nat.le_of_ble_eq_true rfl) ?_
      refine ⟨rfl, trivial, fun v6 ev6 => ?_⟩
      refine z_istore_n (pc := 22) (lv' := [(2, AI v6), (0, AR 1), (1, AI x)]) dX7_lock_22 rfl (by decide) rfl ?_
      refine z_aload_n (pc := 23) (x := 1) dX7_lock_23 rfl 1 rfl ?_
      refine z_getR (pc := 24) (pl := 0) (f := 0) (ci := 6) (C := RX7) (T := TX7) (N := 13) hu_X7 (by decide) rfl rfl (by decide) rfl (List.mem_cons_of_mem _ (iw1 _ (List.mem_of_getElem? (i := 16) rfl))) rfl dX7_lock_24 ?_
      refine z_iload_n (pc := 27) dX7_lock_27 rfl 2 rfl ?_
      refine z_callV (pc := 28) (kc := kX1_setLock) (n := 1) (pl := 1) (ci := 1) (C := RX1) (As := [AI x]) (stk := []) ct_X1_setLock (gdV rfl rfl (iw15 _ (List.mem_of_getElem? (i := 6) rfl)) (iw15 _ (List.mem_of_getElem? (i := 7) rfl)) (iw15 _ (List.mem_of_getElem? (i := 8) rfl)) (iw1 _ (List.mem_of_getElem? (i := 15) rfl)) (iw15 _ (List.mem_of_getElem? (i := 9) rfl))) rfl ⟨rfl, rfl⟩ (by decide +kernel) ⟨by decide, by decide⟩ (by decide) rfl rfl dX7_lock_28 rfl rfl (Nat.le_of_ble_eq_true rfl) ?_
      refine ⟨_, rfl, by omega, fun h7 eh7 => ?_⟩
      have frh7 : Fr [2] hi h7 := (Fr.call (Fr.rf) eh7.1 (by decide))
      refine z_iload_n (pc := 31) dX7_lock_31 rfl 0 rfl ?_
      refine z_iret (pc := 32) rfl dX7_lock_32 ?_
      exact hQ v6 h7 ⟨frh7, by first | exact Or.inl ⟨rfl, by omega, rfl⟩ | exact Or.inr ⟨by omega, by omega, eh7.2⟩⟩
    · refine z_iconst (pc := 13) (v := (-1)) dX7_lock_13 rfl ?_
      refine z_iret (pc := 14) rfl dX7_lock_14 ?_
      exact hQ (-1) hi ⟨(Fr.rf), by first | exact Or.inl ⟨rfl, by omega, rfl⟩ | exact Or.inr ⟨by omega, by omega, ehi.2⟩⟩

abbrev kX7_undo : Kd := (cX7_undo, .code yX7_undo cX7_undo 1 (some .int) :: wsL_law0, rmL 3, RX7, (some .int), 1)
theorem ct_X7_undo : Ct kX7_undo yX7_undo (fun a hi Q => a = [AR 1] ∧ ((0 ≤ hi 3 1 ∧ hi 3 1 ≤ 20) ∧ 0 ≤ hi 3 2 ∧ hi 3 2 < 20) ∧ ∀ (v : Int) (h2 : HI), (Fr [2, 3] hi h2 ∧ ((hi 3 1 = 0 ∧ v = -1 ∧ h2 = hi) ∨ (0 < hi 3 1 ∧ v = hi 3 1 - 1 ∧ h2 = TakH hi))) → Q (AI v) h2) := by
  refine Ct.of (ws' := _) (by decide +kernel) rfl rfl ?_
  intro a hi Q hT
  obtain ⟨rfl, hpre, hQ⟩ := hT
  refine ⟨Nat.le_of_ble_eq_true rfl, ?_⟩
  show Z kX7_undo Q 0 [(0, AR 1)] [] hi
  refine z_aload_n (pc := 0) (x := 1) dX7_undo_0 rfl 0 rfl ?_
  refine z_getR (pc := 1) (pl := 0) (f := 1) (ci := 6) (C := RX7) (T := TX7) (N := 13) hu_X7 (by decide) rfl rfl (by decide) rfl (List.mem_cons_of_mem _ (iw1 _ (List.mem_of_getElem? (i := 20) rfl))) rfl dX7_undo_1 ?_
  refine z_aload_n (pc := 4) (x := 1) dX7_undo_4 rfl 0 rfl ?_
  refine z_getR (pc := 5) (pl := 0) (f := 0) (ci := 6) (C := RX7) (T := TX7) (N := 13) hu_X7 (by decide) rfl rfl (by decide) rfl (List.mem_cons_of_mem _ (iw1 _ (List.mem_of_getElem? (i := 16) rfl))) rfl dX7_undo_5 ?_
  refine z_callV (pc := 8) (kc := kX3_takeBack) (n := 1) (pl := 3) (ci := 3) (C := RX3) (As := [AR 2]) (stk := []) ct_X3_takeBack (gdV rfl rfl (iw15 _ (List.mem_of_getElem? (i := 18) rfl)) (iw15 _ (List.mem_of_getElem? (i := 19) rfl)) (iw15 _ (List.mem_of_getElem? (i := 20) rfl)) (iw1 _ (List.mem_of_getElem? (i := 19) rfl)) (iw15 _ (List.mem_of_getElem? (i := 21) rfl))) rfl ⟨rfl, rfl⟩ (by decide +kernel) ⟨by decide, by decide⟩ (by decide) rfl rfl dX7_undo_8 rfl rfl (Nat.le_of_ble_eq_true rfl) ?_
  refine ⟨rfl, hpre, fun v1 h2 eh2 => ?_⟩
  have frh2 : Fr [2, 3] hi h2 := (Fr.call (Fr.rf) eh2.1 (by decide))
  have w8 := eh2.2
  refine z_if_eq (pc := 11) (tgt := 24) dX7_undo_11 (by decide) ⟨by omega, by omega⟩ (fun c3 => ?_) (fun c3 => ?_)
  · refine z_iconst (pc := 24) (v := (-1)) dX7_undo_24 rfl ?_
    refine z_iret (pc := 25) rfl dX7_undo_25 ?_
    exact hQ (-1) h2 ⟨frh2, by rcases w8 with ⟨q1, q2, q3⟩ | ⟨q1, q2, q3⟩ <;> first | exact Or.inl ⟨q2, rfl, q3⟩ | exact Or.inr ⟨q2, by rw [w18.1, q3, TakH_31], q3⟩ | (exfalso; omega)⟩
  · refine z_aload_n (pc := 14) (x := 1) dX7_undo_14 rfl 0 rfl ?_
    refine z_getR (pc := 15) (pl := 0) (f := 1) (ci := 6) (C := RX7) (T := TX7) (N := 13) hu_X7 (by decide) rfl rfl (by decide) rfl (List.mem_cons_of_mem _ (iw1 _ (List.mem_of_getElem? (i := 20) rfl))) rfl dX7_undo_15 ?_
    refine z_callV (pc := 18) (kc := kX3_steps) (n := 0) (pl := 3) (ci := 3) (C := RX3) (As := []) (stk := []) ct_X3_steps (gdV rfl rfl (iw16 _ (List.mem_of_getElem? (i := 2) rfl)) (iw16 _ (List.mem_of_getElem? (i := 3) rfl)) (iw16 _ (List.mem_of_getElem? (i := 4) rfl)) (iw1 _ (List.mem_of_getElem? (i := 19) rfl)) (iw16 _ (List.mem_of_getElem? (i := 5) rfl))) rfl ⟨rfl, rfl⟩ (by decide +kernel) ⟨by decide, by decide⟩ (by decide) rfl rfl dX7_undo_18 rfl rfl (Nat.le_of_ble_eq_true rfl) ?_
    refine ⟨rfl, trivial, fun v4 ev4 => ?_⟩
    have w18 := ev4
    refine z_goto (pc := 21) (tgt := 25) dX7_undo_21 (by decide) ?_
    refine z_iret (pc := 25) rfl dX7_undo_25 ?_
    exact hQ v4 h2 ⟨frh2, by rcases w8 with ⟨q1, q2, q3⟩ | ⟨q1, q2, q3⟩ <;> first | exact Or.inl ⟨q2, rfl, q3⟩ | exact Or.inr ⟨q2, by rw [w18.1, q3, TakH_31], q3⟩ | (exfalso; omega)⟩

abbrev kX7_keep : Kd := (cX7_keep, .code yX7_keep cX7_keep 3 (some .boolean) :: wsL_law0, rmL 2, RX7, (some .boolean), 3)
theorem ct_X7_keep : Ct kX7_keep yX7_keep (fun a hi Q => ∃ k : Int, ∃ b : Int, a = [AR 1, AI k, AI b] ∧ (inR k ∧ (b = 0 ∨ b = 1)) ∧ ∀ (v : Int) (h2 : HI), (Fr [2, 3, 26, 27, 28] hi h2 ∧ ((v = 0 ∧ (¬ (0 ≤ k ∧ k < 2) ∨ (b = 1 ∧ hi 28 k.toNat = 0)) ∧ h2 = hi) ∨ (v = 1 ∧ (0 ≤ k ∧ k < 2) ∧ b = 0 ∧ h2 = hput (hput hi (26 + k.toNat) (cpyI (hi 2) (hi (26 + k.toNat)) 0 0 162)) 28 (updI (hi 28) k.toNat 1)) ∨ (v = 1 ∧ (0 ≤ k ∧ k < 2) ∧ b = 1 ∧ hi 28 k.toNat ≠ 0 ∧ h2 = hput (hput hi 2 (cpyI (hi (26 + k.toNat)) (hi 2) 0 0 162)) 3 (updI (hi 3) 1 0)))) → Q (AI v) h2) := by
  refine Ct.of (ws' := _) (by decide +kernel) rfl rfl ?_
  intro a hi Q hT
  obtain ⟨k, b, rfl, hpre, hQ⟩ := hT
  refine ⟨Nat.le_of_ble_eq_true rfl, ?_⟩
  show Z kX7_keep Q 0 [(0, AR 1), (1, AI k), (2, AI b)] [] hi
  refine z_iload_n (pc := 0) dX7_keep_0 rfl 1 rfl ?_
  refine z_if_lt (pc := 1) (tgt := 9) dX7_keep_1 (by decide) ⟨by omega, by omega⟩ (fun c1 => ?_) (fun c1 => ?_)
  · refine z_iconst (pc := 9) (v := 0) dX7_keep_9 rfl ?_
    refine z_zret (pc := 10) rfl (by decide) dX7_keep_10 ?_
    exact hQ 0 hi ⟨(Fr.rf), by first | exact Or.inl ⟨rfl, by omega, rfl⟩ | exact Or.inr (Or.inl ⟨rfl, by omega, by omega, by rw [ehi, w25, hput_ne _ _ (by omega)]⟩) | exact Or.inr (Or.inr ⟨rfl, by omega, by omega, by omega, by rw [w65, w58]⟩)⟩
  · refine z_iload_n (pc := 4) dX7_keep_4 rfl 1 rfl ?_
    refine z_iconst (pc := 5) (v := 2) dX7_keep_5 rfl ?_
    refine z_icmp_lt (pc := 6) (tgt := 11) dX7_keep_6 (by decide) ⟨by omega, by omega⟩ ⟨by decide, by decide⟩ (fun c2 => ?_) (fun c2 => ?_)
    · refine z_iload_n (pc := 11) dX7_keep_11 rfl 2 rfl ?_
      refine z_if_ne (pc := 12) (tgt := 37) dX7_keep_12 (by decide) ⟨by omega, by omega⟩ (fun c3 => ?_) (fun c3 => ?_)
      · refine z_aload_n (pc := 37) (x := 1) dX7_keep_37 rfl 0 rfl ?_
        refine z_getR (pc := 38) (pl := 0) (f := 3) (ci := 6) (C := RX7) (T := TX7) (N := 13) hu_X7 (by decide) rfl rfl (by decide) rfl (List.mem_cons_of_mem _ (iw2 _ (List.mem_of_getElem? (i := 1) rfl))) rfl dX7_keep_38 ?_
        refine z_iload_n (pc := 41) dX7_keep_41 rfl 1 rfl ?_
        refine z_zald (pc := 42) (pl := 28) (by decide) rfl (by decide) (by decide) (by omega) (by omega) dX7_keep_42 (fun v4 ev4 rv4 => ?_)
        refine z_if_ne (pc := 43) (tgt := 48) dX7_keep_43 (by decide) ⟨by omega, by omega⟩ (fun c5 => ?_) (fun c5 => ?_)
        · refine z_aload_n (pc := 48) (x := 1) dX7_keep_48 rfl 0 rfl ?_
          refine z_getR (pc := 49) (pl := 0) (f := 0) (ci := 6) (C := RX7) (T := TX7) (N := 13) hu_X7 (by decide) rfl rfl (by decide) rfl (List.mem_cons_of_mem _ (iw1 _ (List.mem_of_getElem? (i := 16) rfl))) rfl dX7_keep_49 ?_
          refine z_aload_n (pc := 52) (x := 1) dX7_keep_52 rfl 0 rfl ?_
          refine z_getR (pc := 53) (pl := 0) (f := 2) (ci := 6) (C := RX7) (T := TX7) (N := 13) hu_X7 (by decide) rfl rfl (by decide) rfl (List.mem_cons_of_mem _ (iw1 _ (List.mem_of_getElem? (i := 23) rfl))) rfl dX7_keep_53 ?_
          refine z_iload_n (pc := 56) dX7_keep_56 rfl 1 rfl ?_
          refine z_aldR (pc := 57) (pl := 25) (b := 26) (by decide) rfl (by decide) (by omega) (by omega) dX7_keep_57 ?_
          refine z_callV (pc := 58) (kc := kX1_copyFrom) (n := 1) (pl := 1) (ci := 1) (C := RX1) (As := [AR (26 + k.toNat + 1)]) (stk := []) ct_X1_copyFrom (gdV rfl rfl (iw16 _ (List.mem_of_getElem? (i := 15) rfl)) (iw15 _ (List.mem_of_getElem? (i := 23) rfl)) (iw16 _ (List.mem_of_getElem? (i := 0) rfl)) (iw1 _ (List.mem_of_getElem? (i := 15) rfl)) (iw16 _ (List.mem_of_getElem? (i := 1) rfl))) rfl ⟨rfl, rfl⟩ (by decide +kernel) ⟨by decide, by decide⟩ (by decide) rfl rfl dX7_keep_58 rfl rfl (Nat.le_of_ble_eq_true rfl) ?_
          refine ⟨_, rfl, by omega, fun h6 eh6 => ?_⟩
          have frh6 : Fr [2, 3, 26, 27, 28] hi h6 := (Fr.call (Fr.rf) eh6.1 (by decide))
          have w58 := eh6.2
          refine z_aload_n (pc := 61) (x := 1) dX7_keep_61 rfl 0 rfl ?_
          refine z_getR (pc := 62) (pl := 0) (f := 1) (ci := 6) (C := RX7) (T := TX7) (N := 13) hu_X7 (by decide) rfl rfl (by decide) rfl (List.mem_cons_of_mem _ (iw1 _ (List.mem_of_getElem? (i := 20) rfl))) rfl dX7_keep_62 ?_
          refine z_callV (pc := 65) (kc := kX3_forget) (n := 0) (pl := 3) (ci := 3) (C := RX3) (As := []) (stk := []) ct_X3_forget (gdV rfl rfl (iw16 _ (List.mem_of_getElem? (i := 16) rfl)) (iw16 _ (List.mem_of_getElem? (i := 17) rfl)) (iw16 _ (List.mem_of_getElem? (i := 18) rfl)) (iw1 _ (List.mem_of_getElem? (i := 19) rfl)) (iw16 _ (List.mem_of_getElem? (i := 19) rfl))) rfl ⟨rfl, rfl⟩ (by decide +kernel) ⟨by decide, by decide⟩ (by decide) rfl rfl dX7_keep_65 rfl rfl (Nat.le_of_ble_eq_true rfl) ?_
          refine ⟨rfl, trivial, fun h7 eh7 => ?_⟩
          have frh7 : Fr [2, 3, 26, 27, 28] hi h7 := (Fr.call frh6 eh7.1 (by decide))
          try rw [(eh6.1 3 (by decide) : h6 3 = hi 3)] at eh7
          have w65 := eh7.2
          refine z_iconst (pc := 68) (v := 1) dX7_keep_68 rfl ?_
          refine z_zret (pc := 69) rfl (by decide) dX7_keep_69 ?_
          exact hQ 1 h7 ⟨frh7, by first | exact Or.inl ⟨rfl, by omega, rfl⟩ | exact Or.inr (Or.inl ⟨rfl, by omega, by omega, by rw [eh7, w25, hput_ne _ _ (by omega)]⟩) | exact Or.inr (Or.inr ⟨rfl, by omega, by omega, by omega, by rw [w65, w58]⟩)⟩
        · refine z_iconst (pc := 46) (v := 0) dX7_keep_46 rfl ?_
          refine z_zret (pc := 47) rfl (by decide) dX7_keep_47 ?_
          exact hQ 0 hi ⟨(Fr.rf), by first | exact Or.inl ⟨rfl, by omega, rfl⟩ | exact Or.inr (Or.inl ⟨rfl, by omega, by omega, by rw [ehi, w25, hput_ne _ _ (by omega)]⟩) | exact Or.inr (Or.inr ⟨rfl, by omega, by omega, by omega, by rw [w65, w58]⟩)⟩
      · refine z_aload_n (pc := 15) (x := 1) dX7_keep_15 rfl 0 rfl ?_
        refine z_getR (pc := 16) (pl := 0) (f := 0) (ci := 6) (C := RX7) (T := TX7) (N := 13) hu_X7 (by decide) rfl rfl (by decide) rfl (List.mem_cons_of_mem _ (iw1 _ (List.mem_of_getElem? (i := 16) rfl))) rfl dX7_keep_16 ?_
        refine z_aload_n (pc := 19) (x := 1) dX7_keep_19 rfl 0 rfl ?_
        refine z_getR (pc := 20) (pl := 0) (f := 2) (ci := 6) (C := RX7) (T := TX7) (N := 13) hu_X7 (by decide) rfl rfl (by decide) rfl (List.mem_cons_of_mem _ (iw1 _ (List.mem_of_getElem? (i := 23) rfl))) rfl dX7_keep_20 ?_
        refine z_iload_n (pc := 23) dX7_keep_23 rfl 1 rfl ?_
        refine z_aldR (pc := 24) (pl := 25) (b := 26) (by decide) rfl (by decide) (by omega) (by omega) dX7_keep_24 ?_
        refine z_callV (pc := 25) (kc := kX1_copyTo) (n := 1) (pl := 1) (ci := 1) (C := RX1) (As := [AR (26 + k.toNat + 1)]) (stk := []) ct_X1_copyTo (gdV rfl rfl (iw16 _ (List.mem_of_getElem? (i := 14) rfl)) (iw8 _ (List.mem_of_getElem? (i := 7) rfl)) (iw8 _ (List.mem_of_getElem? (i := 8) rfl)) (iw1 _ (List.mem_of_getElem? (i := 15) rfl)) (iw8 _ (List.mem_of_getElem? (i := 9) rfl))) rfl ⟨rfl, rfl⟩ (by decide +kernel) ⟨by decide, by decide⟩ (by decide) rfl rfl dX7_keep_25 rfl rfl (Nat.le_of_ble_eq_true rfl) ?_
        refine ⟨_, rfl, by omega, fun h8 eh8 => ?_⟩
        have frh8 : Fr [2, 3, 26, 27, 28] hi h8 := (Fr.put (Fr.rf) eh8.2 (by simp; omega))
        have w25 := eh8.2
        refine z_aload_n (pc := 28) (x := 1) dX7_keep_28 rfl 0 rfl ?_
        refine z_getR (pc := 29) (pl := 0) (f := 3) (ci := 6) (C := RX7) (T := TX7) (N := 13) hu_X7 (by decide) rfl rfl (by decide) rfl (List.mem_cons_of_mem _ (iw2 _ (List.mem_of_getElem? (i := 1) rfl))) rfl dX7_keep_29 ?_
        refine z_iload_n (pc := 32) dX7_keep_32 rfl 1 rfl ?_
        refine z_iconst (pc := 33) (v := 1) dX7_keep_33 rfl ?_
        refine z_zast (pc := 34) (pl := 28) (by decide) rfl (by decide) (by omega) (by omega) (by decide) dX7_keep_34 (fun h9 eh9 => ?_)
        have frh9 : Fr [2, 3, 26, 27, 28] hi h9 := (Fr.put frh8 eh9 (by decide))
        refine z_iconst (pc := 35) (v := 1) dX7_keep_35 rfl ?_
        refine z_zret (pc := 36) rfl (by decide) dX7_keep_36 ?_
        exact hQ 1 h9 ⟨frh9, by first | exact Or.inl ⟨rfl, by omega, rfl⟩ | exact Or.inr (Or.inl ⟨rfl, by omega, by omega, by rw [eh9, w25, hput_ne _ _ (by omega)]⟩) | exact Or.inr (Or.inr ⟨rfl, by omega, by omega, by omega, by rw [w65, w58]⟩)⟩
    · refine z_iconst (pc := 9) (v := 0) dX7_keep_9 rfl ?_
      refine z_zret (pc := 10) rfl (by decide) dX7_keep_10 ?_
      exact hQ 0 hi ⟨(Fr.rf), by first | exact Or.inl ⟨rfl, by omega, rfl⟩ | exact Or.inr (Or.inl ⟨rfl, by omega, by omega, by rw [ehi, w25, hput_ne _ _ (by omega)]⟩) | exact Or.inr (Or.inr ⟨rfl, by omega, by omega, by omega, by rw [w65, w58]⟩)⟩

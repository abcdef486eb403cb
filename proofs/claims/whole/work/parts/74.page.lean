/-! a report's bytes -/
def numB (x : Int) : List Int := (if 100 ≤ x then [48 + x / 100] else []) ++ (if 10 ≤ x then [48 + x / 10 % 10] else []) ++ [48 + x % 10]
def lifeB (f : Nat → Int) (k : Int) : List Int := numB (nO f k) ++ sgB.getD 41 [] ++ numB (bO f k) ++ (if dO f k = 64 then sgB.getD 42 [] else sgB.getD 43 [] ++ numB (dO f k)) ++ (if wO f k = 0 then [] else sgB.getD 44 [] ++ numB (wO f k)) ++ sgB.getD 45 []
def repB (f : Nat → Int) : Nat → List Int
  | 0 => []
  | n + 1 => repB f n ++ lifeB f n
def repV (f : Nat → Int) (n i : Int) : Int := if i < -1 then -1 else if i = -1 then ((repB f n.toNat).length : Nat) else if i < ((repB f n.toNat).length : Nat) then (repB f n.toNat).getD i.toNat 0 else -2
/-- n bytes of f are L -/
def PL (f : Nat → Int) (n : Int) (L : List Int) : Prop := n = (L.length : Nat) ∧ ∀ i : Nat, i < L.length → f i = L.getD i 0
theorem PL.nil {f : Nat → Int} {n : Int} (h : n = 0) : PL f n [] := ⟨h, fun i hi => absurd hi (Nat.not_lt_zero i)⟩
theorem getD_app1 {L M : List Int} {i : Nat} (h : i < L.length) : (L ++ M).getD i 0 = L.getD i 0 := by
  rw [List.getD_eq_getElem?_getD, List.getD_eq_getElem?_getD, List.getElem?_append_left h]
theorem getD_app2 {L : List Int} {v : Int} : (L ++ [v]).getD L.length 0 = v := by
  rw [List.getD_eq_getElem?_getD, List.getElem?_append_right (Nat.le_refl _), Nat.sub_self]; rfl
theorem PL.add {f g : Nat → Int} {n n2 v : Int} {L : List Int} (h : PL f n L) (e : g = updI f n.toNat v) (hn : n2 = n + 1) : PL g n2 (L ++ [v]) := by
  obtain ⟨a, b⟩ := h
  have t : n.toNat = L.length := by omega
  refine ⟨by rw [List.length_append]; show n2 = ((L.length + 1 : Nat) : Int); omega, fun i hi => ?_⟩
  rw [List.length_append] at hi
  have hi2 : i < L.length + 1 := hi
  rw [e, t]
  rcases Nat.lt_or_ge i L.length with q | q
  · rw [updI_ne _ _ (by omega), b i q, getD_app1 q]
  · rw [show i = L.length by omega, updI_same, getD_app2]
theorem PL.cast {f : Nat → Int} {n : Int} {L M : List Int} (h : PL f n L) (e : L = M) : PL f n M := e ▸ h
theorem PL.same {f g : Nat → Int} {n n2 : Int} {L : List Int} (h : PL f n L) (e : g = f) (e2 : n2 = n) : PL g n2 L := by rw [e, e2]; exact h
theorem num_3 {x : Int} (h : 100 ≤ x) : numB x = [48 + x / 100] ++ [48 + x / 10 % 10] ++ [48 + x % 10] := by unfold numB; rw [if_pos h, if_pos (by omega)]
theorem num_2 {x : Int} (h : ¬ 100 ≤ x) (h1 : 10 ≤ x) : numB x = [48 + x / 10 % 10] ++ [48 + x % 10] := by unfold numB; rw [if_neg h, if_pos h1]; rfl
theorem num_1 {x : Int} (h1 : ¬ 10 ≤ x) : numB x = [48 + x % 10] := by unfold numB; rw [if_neg (by omega), if_neg h1]; rfl
theorem app3 {L : List Int} {a b c : Int} : L ++ [a] ++ [b] ++ [c] = L ++ ([a] ++ [b] ++ [c]) := by simp only [List.append_assoc]
theorem app2 {L : List Int} {a b : Int} : L ++ [a] ++ [b] = L ++ ([a] ++ [b]) := by simp only [List.append_assoc]
theorem w41 : wl 41 = 6 ∧ wl 42 = 3 ∧ wl 43 = 4 ∧ wl 44 = 7 ∧ wl 45 = 3 := by decide +kernel
theorem take_step {L M : List Int} {j j2 : Int} {v : Int} (h0 : 0 ≤ j) (h1 : j < (M.length : Nat)) (hj : j2 = j + 1) (hv : v = M.getD j.toNat 0) : L ++ M.take j.toNat ++ [v] = L ++ M.take j2.toNat := by
  rw [List.append_assoc, show j2.toNat = j.toNat + 1 by omega, List.take_add_one, hv, List.getD_eq_getElem?_getD]
  have hl : j.toNat < M.length := by omega
  rw [List.getElem?_eq_getElem hl]; rfl
theorem take_end {L M : List Int} {j : Int} (h1 : ¬ j < (M.length : Nat)) : L ++ M.take j.toNat = L ++ M := by rw [List.take_of_length_le (by omega)]
theorem lifeB_40 {f : Nat → Int} {k : Int} {L : List Int} (hd : dO f k = 64) (hw : wO f k = 0) : L ++ numB (nO f k) ++ sgB.getD 41 [] ++ numB (bO f k) ++ sgB.getD 42 [] ++ sgB.getD 45 [] = L ++ lifeB f k := by
  unfold lifeB; rw [if_pos hd, if_pos hw]; simp only [List.append_assoc, List.append_nil, List.nil_append]
theorem lifeB_41 {f : Nat → Int} {k : Int} {L : List Int} (hd : dO f k = 64) (hw : ¬ wO f k = 0) : L ++ numB (nO f k) ++ sgB.getD 41 [] ++ numB (bO f k) ++ sgB.getD 42 [] ++ sgB.getD 44 [] ++ numB (wO f k) ++ sgB.getD 45 [] = L ++ lifeB f k := by
  unfold lifeB; rw [if_pos hd, if_neg hw]; simp only [List.append_assoc]
theorem lifeB_30 {f : Nat → Int} {k : Int} {L : List Int} (hd : ¬ dO f k = 64) (hw : wO f k = 0) : L ++ numB (nO f k) ++ sgB.getD 41 [] ++ numB (bO f k) ++ sgB.getD 43 [] ++ numB (dO f k) ++ sgB.getD 45 [] = L ++ lifeB f k := by
  unfold lifeB; rw [if_neg hd, if_pos hw]; simp only [List.append_assoc, List.append_nil, List.nil_append]
theorem lifeB_31 {f : Nat → Int} {k : Int} {L : List Int} (hd : ¬ dO f k = 64) (hw : ¬ wO f k = 0) : L ++ numB (nO f k) ++ sgB.getD 41 [] ++ numB (bO f k) ++ sgB.getD 43 [] ++ numB (dO f k) ++ sgB.getD 44 [] ++ numB (wO f k) ++ sgB.getD 45 [] = L ++ lifeB f k := by
  unfold lifeB; rw [if_neg hd, if_neg hw]; simp only [List.append_assoc]
theorem rep_step {f : Nat → Int} {k k2 : Int} (h0 : 0 ≤ k) (hk : k2 = k + 1) : repB f k.toNat ++ lifeB f k = repB f k2.toNat := by
  rw [show k2.toNat = k.toNat + 1 by omega]
  show _ = repB f k.toNat ++ lifeB f ((k.toNat : Nat) : Int)
  rw [show ((k.toNat : Nat) : Int) = k by omega]
theorem rep_1 {f : Nat → Int} {n i : Int} (h : i < -1) : (-1 : Int) = repV f n i := by unfold repV; rw [if_pos h]
theorem rep_2 {f : Nat → Int} {n i v : Int} (h : i = -1) (hv : v = ((repB f n.toNat).length : Nat)) : v = repV f n i := by unfold repV; rw [if_neg (by omega), if_pos h]; exact hv
theorem rep_3 {f : Nat → Int} {n i v : Int} (h : -1 < i) (h2 : i < ((repB f n.toNat).length : Nat)) (hv : v = (repB f n.toNat).getD i.toNat 0) : v = repV f n i := by unfold repV; rw [if_neg (by omega), if_neg (by omega), if_pos h2]; exact hv
theorem rep_4 {f : Nat → Int} {n i : Int} (h : -1 < i) (h2 : ¬ i < ((repB f n.toNat).length : Nat)) : (-2 : Int) = repV f n i := by unfold repV; rw [if_neg (by omega), if_neg (by omega), if_neg h2]
theorem PL.get {f : Nat → Int} {n i : Int} {L : List Int} (h : PL f n L) (h0 : 0 ≤ i) (h1 : i < n) : f i.toNat = L.getD i.toNat 0 := h.2 i.toNat (by have := h.1; omega)

abbrev kX2_clear : Kd := (cX2_clear, .code yX2_clear cX2_clear 1 none :: wsL_law0, rmL 1, RX2, none, 1)
theorem ct_X2_clear : Ct kX2_clear yX2_clear (fun a hi Q => a = [AR 38] ∧ (True) ∧ ∀ h2 : HI, (Fr [37] hi h2 ∧ (h2 37 1 = 0)) → Q AU h2) := by
  refine Ct.of (ws' := _) (by decide +kernel) rfl rfl ?_
  intro a hi Q hT
  obtain ⟨rfl, hpre, hQ⟩ := hT
  refine ⟨Nat.le_of_ble_eq_true rfl, ?_⟩
  show Z kX2_clear Q 0 [(0, AR 38)] [] hi
  refine z_aload_n (pc := 0) (x := 38) dX2_clear_0 rfl 0 rfl ?_
  refine z_iconst (pc := 1) (v := 0) dX2_clear_1 rfl ?_
  refine z_putI (pc := 2) (pl := 37) (f := 1) (ci := 2) (C := RX2) (T := TX2) (N := 2) hu_X2 tyX2_ok nmX2 (by decide) rfl rfl (by decide) rfl (List.mem_cons_of_mem _ (iw5 _ (List.mem_of_getElem? (i := 0) rfl))) rfl rfl (ty := .int) (by decide +kernel) rfl rfl ⟨by decide, by decide⟩ dX2_clear_2 (fun h1 eh1 => ?_)
  have frh1 : Fr [37] hi h1 := (Fr.put (Fr.rf) eh1 (by decide))
  refine z_vret (pc := 5) rfl dX2_clear_5 ?_
  exact hQ h1 ⟨frh1, (by rw [(by rw [eh1]; rfl : h1 37 1 = 0)] : h1 37 1 = 0)⟩

abbrev kX2_length : Kd := (cX2_length, .code yX2_length cX2_length 1 (some .int) :: wsL_law0, rmL 1, RX2, (some .int), 1)
theorem ct_X2_length : Ct kX2_length yX2_length (fun a hi Q => a = [AR 38] ∧ (True) ∧ ∀ v : Int, (v = hi 37 1 ∧ inR v) → Q (AI v) hi) := by
  refine Ct.of (ws' := _) (by decide +kernel) rfl rfl ?_
  intro a hi Q hT
  obtain ⟨rfl, hpre, hQ⟩ := hT
  refine ⟨Nat.le_of_ble_eq_true rfl, ?_⟩
  show Z kX2_length Q 0 [(0, AR 38)] [] hi
  refine z_aload_n (pc := 0) (x := 38) dX2_length_0 rfl 0 rfl ?_
  refine z_getI (pc := 1) (pl := 37) (f := 1) (ci := 2) (C := RX2) (T := TX2) (N := 2) hu_X2 (by decide) rfl rfl (by decide) rfl (List.mem_cons_of_mem _ (iw5 _ (List.mem_of_getElem? (i := 0) rfl))) rfl (by decide) dX2_length_1 (fun v1 ev1 rv1 => ?_)
  refine z_iret (pc := 4) rfl dX2_length_4 ?_
  exact hQ v1 (⟨by assumption, by assumption⟩)

abbrev kX2_byteAt : Kd := (cX2_byteAt, .code yX2_byteAt cX2_byteAt 2 (some .int) :: wsL_law0, rmL 1, RX2, (some .int), 2)
theorem ct_X2_byteAt : Ct kX2_byteAt yX2_byteAt (fun a hi Q => ∃ x : Int, a = [AR 38, AI x] ∧ (0 ≤ x ∧ x < 1280) ∧ ∀ v : Int, (v = hi 38 x.toNat) → Q (AI v) hi) := by
  refine Ct.of (ws' := _) (by decide +kernel) rfl rfl ?_
  intro a hi Q hT
  obtain ⟨x, rfl, hpre, hQ⟩ := hT
  refine ⟨Nat.le_of_ble_eq_true rfl, ?_⟩
  show Z kX2_byteAt Q 0 [(0, AR 38), (1, AI x)] [] hi
  refine z_iload_n (pc := 0) dX2_byteAt_0 rfl 1 rfl ?_
  refine z_if_lt (pc := 1) (tgt := 11) dX2_byteAt_1 (by decide) ⟨by omega, by omega⟩ (fun c1 => ?_) (fun c1 => ?_)
  · refine z_iconst (pc := 11) (v := 0) dX2_byteAt_11 rfl ?_
    refine z_goto (pc := 12) (tgt := 21) dX2_byteAt_12 (by decide) ?_
    refine z_iret (pc := 21) rfl dX2_byteAt_21 ?_
    exact hQ 0 (by first | assumption | omega)
  · refine z_iload_n (pc := 4) dX2_byteAt_4 rfl 1 rfl ?_
    refine z_sipush (pc := 5) (v := 1280) dX2_byteAt_5 (by decide +kernel) ?_
    refine z_icmp_lt (pc := 8) (tgt := 15) dX2_byteAt_8 (by decide) ⟨by omega, by omega⟩ ⟨by decide, by decide⟩ (fun c2 => ?_) (fun c2 => ?_)
    · refine z_aload_n (pc := 15) (x := 38) dX2_byteAt_15 rfl 0 rfl ?_
      refine z_getR (pc := 16) (pl := 37) (f := 0) (ci := 2) (C := RX2) (T := TX2) (N := 2) hu_X2 (by decide) rfl rfl (by decide) rfl (List.mem_cons_of_mem _ (iw4 _ (List.mem_of_getElem? (i := 23) rfl))) rfl dX2_byteAt_16 ?_
      refine z_iload_n (pc := 19) dX2_byteAt_19 rfl 1 rfl ?_
      refine z_iald (pc := 20) (pl := 38) (by decide) rfl (by decide) (by decide) (by omega) (by omega) dX2_byteAt_20 (fun v3 ev3 rv3 => ?_)
      refine z_iret (pc := 21) rfl dX2_byteAt_21 ?_
      exact hQ v3 (by first | assumption | omega)
    · refine z_iconst (pc := 11) (v := 0) dX2_byteAt_11 rfl ?_
      refine z_goto (pc := 12) (tgt := 21) dX2_byteAt_12 (by decide) ?_
      refine z_iret (pc := 21) rfl dX2_byteAt_21 ?_
      exact hQ 0 (by first | assumption | omega)

abbrev kX2_addByte : Kd := (cX2_addByte, .code yX2_addByte cX2_addByte 2 none :: wsL_law0, rmL 1, RX2, none, 2)
theorem ct_X2_addByte : Ct kX2_addByte yX2_addByte (fun a hi Q => ∃ x : Int, ∃ L : List Int, a = [AR 38, AI x] ∧ (PL (hi 38) (hi 37 1) L ∧ (0 ≤ hi 37 1 ∧ hi 37 1 + 1 ≤ 1280) ∧ inR x) ∧ ∀ h2 : HI, (Fr [37, 38] hi h2 ∧ (PL (h2 38) (h2 37 1) (L ++ [x]) ∧ h2 37 1 = hi 37 1 + 1)) → Q AU h2) := by
  refine Ct.of (ws' := _) (by decide +kernel) rfl rfl ?_
  intro a hi Q hT
  obtain ⟨x, L, rfl, hpre, hQ⟩ := hT
  refine ⟨Nat.le_of_ble_eq_true rfl, ?_⟩
  show Z kX2_addByte Q 0 [(0, AR 38), (1, AI x)] [] hi
  obtain ⟨pl, b37, hq⟩ := hpre
  refine z_aload_n (pc := 0) (x := 38) dX2_addByte_0 rfl 0 rfl ?_
  refine z_getI (pc := 1) (pl := 37) (f := 1) (ci := 2) (C := RX2) (T := TX2) (N := 2) hu_X2 (by decide) rfl rfl (by decide) rfl (List.mem_cons_of_mem _ (iw5 _ (List.mem_of_getElem? (i := 0) rfl))) rfl (by decide) dX2_addByte_1 (fun v1 ev1 rv1 => ?_)
  refine z_if_lt (pc := 4) (tgt := 37) dX2_addByte_4 (by decide) ⟨by omega, by omega⟩ (fun c2 => ?_) (fun c2 => ?_)
  · refine z_vret (pc := 37) rfl dX2_addByte_37 ?_
    exact hQ hi ⟨(Fr.rf), by first | exact ⟨pl.add (by rw [(rfl : hi 38 = hi 38)]; exact u26) (by rw [(rfl : hi 37 1 = hi 37 1)]; omega), by rw [(rfl : hi 37 1 = hi 37 1)]; omega⟩ | (exfalso; omega)⟩
  · refine z_aload_n (pc := 7) (x := 38) dX2_addByte_7 rfl 0 rfl ?_
    refine z_getI (pc := 8) (pl := 37) (f := 1) (ci := 2) (C := RX2) (T := TX2) (N := 2) hu_X2 (by decide) rfl rfl (by decide) rfl (List.mem_cons_of_mem _ (iw5 _ (List.mem_of_getElem? (i := 0) rfl))) rfl (by decide) dX2_addByte_8 (fun v3 ev3 rv3 => ?_)
    refine z_sipush (pc := 11) (v := 1280) dX2_addByte_11 (by decide +kernel) ?_
    refine z_icmp_ge (pc := 14) (tgt := 37) dX2_addByte_14 (by decide) ⟨by omega, by omega⟩ ⟨by decide, by decide⟩ (fun c4 => ?_) (fun c4 => ?_)
    · refine z_vret (pc := 37) rfl dX2_addByte_37 ?_
      exact hQ hi ⟨(Fr.rf), by first | exact ⟨pl.add (by rw [(rfl : hi 38 = hi 38)]; exact u26) (by rw [(rfl : hi 37 1 = hi 37 1)]; omega), by rw [(rfl : hi 37 1 = hi 37 1)]; omega⟩ | (exfalso; omega)⟩
    · refine z_aload_n (pc := 17) (x := 38) dX2_addByte_17 rfl 0 rfl ?_
      refine z_getR (pc := 18) (pl := 37) (f := 0) (ci := 2) (C := RX2) (T := TX2) (N := 2) hu_X2 (by decide) rfl rfl (by decide) rfl (List.mem_cons_of_mem _ (iw4 _ (List.mem_of_getElem? (i := 23) rfl))) rfl dX2_addByte_18 ?_
      refine z_aload_n (pc := 21) (x := 38) dX2_addByte_21 rfl 0 rfl ?_
      refine z_getI (pc := 22) (pl := 37) (f := 1) (ci := 2) (C := RX2) (T := TX2) (N := 2) hu_X2 (by decide) rfl rfl (by decide) rfl (List.mem_cons_of_mem _ (iw5 _ (List.mem_of_getElem? (i := 0) rfl))) rfl (by decide) dX2_addByte_22 (fun v5 ev5 rv5 => ?_)
      refine z_iload_n (pc := 25) dX2_addByte_25 rfl 1 rfl ?_
      refine z_iast (pc := 26) (pl := 38) (by decide) rfl (by decide) (by omega) (by omega) ⟨by omega, by omega⟩ dX2_addByte_26 (fun h6 eh6 => ?_)
      have frh6 : Fr [37, 38] hi h6 := (Fr.put (Fr.rf) eh6 (by decide))
      have u26 : h6 38 = updI (hi 38) (hi 37 1).toNat x := by rw [eh6, hput_same]; exact updI_c (by omega) rfl
      refine z_aload_n (pc := 27) (x := 38) dX2_addByte_27 rfl 0 rfl ?_
      refine z_dup (pc := 28) dX2_addByte_28 rfl ?_
      refine z_getI (pc := 29) (pl := 37) (f := 1) (ci := 2) (C := RX2) (T := TX2) (N := 2) hu_X2 (by decide) rfl rfl (by decide) rfl (List.mem_cons_of_mem _ (iw5 _ (List.mem_of_getElem? (i := 0) rfl))) rfl (by decide) dX2_addByte_29 (fun v7 ev7 rv7 => ?_)
      rw [(by rw [eh6]; rfl : h6 37 1 = hi 37 1)] at ev7
      refine z_iconst (pc := 32) (v := 1) dX2_addByte_32 rfl ?_
      refine z_iadd (pc := 33) dX2_addByte_33 (fun v8 ev8 => ?_)
      refine z_putI (pc := 34) (pl := 37) (f := 1) (ci := 2) (C := RX2) (T := TX2) (N := 2) hu_X2 tyX2_ok nmX2 (by decide) rfl rfl (by decide) rfl (List.mem_cons_of_mem _ (iw5 _ (List.mem_of_getElem? (i := 0) rfl))) rfl rfl (ty := .int) (by decide +kernel) rfl rfl ⟨by omega, by omega⟩ dX2_addByte_34 (fun h9 eh9 => ?_)
      have frh9 : Fr [37, 38] hi h9 := (Fr.put frh6 eh9 (by decide))
      refine z_vret (pc := 37) rfl dX2_addByte_37 ?_
      exact hQ h9 ⟨frh9, by first | exact ⟨pl.add (by rw [(by rw [(by rw [eh9]; rfl : h9 38 = h6 38)] : h9 38 = h6 38)]; exact u26) (by rw [(by rw [(by rw [eh9]; rfl : h9 37 1 = v8)] : h9 37 1 = v8)]; omega), by rw [(by rw [(by rw [eh9]; rfl : h9 37 1 = v8)] : h9 37 1 = v8)]; omega⟩ | (exfalso; omega)⟩

abbrev kX2_addText : Kd := (cX2_addText, .code yX2_addText cX2_addText 3 none :: wsL_law0, rmL 6, RX2, none, 3)
theorem ct_X2_addText : Ct kX2_addText yX2_addText (fun a hi Q => ∃ z : Nat, ∃ L : List Int, a = [AR 38, AR (201 + z)] ∧ (PL (hi 38) (hi 37 1) L ∧ (0 ≤ hi 37 1 ∧ hi 37 1 + wl z ≤ 1280) ∧ z < 46) ∧ ∀ h2 : HI, (Fr [37, 38] hi h2 ∧ (PL (h2 38) (h2 37 1) (L ++ sgB.getD z []) ∧ h2 37 1 = hi 37 1 + wl z)) → Q AU h2) := by
  refine Ct.of (ws' := _) (by decide +kernel) rfl rfl ?_
  intro a hi Q hT
  obtain ⟨z, L, rfl, hpre, hQ⟩ := hT
  refine ⟨Nat.le_of_ble_eq_true rfl, ?_⟩
  show Z kX2_addText Q 0 [(0, AR 38), (1, AR (201 + z))] [] hi
  obtain ⟨pl, b37, hq⟩ := hpre
  refine z_aload_n (pc := 0) (x := (201 + z)) dX2_addText_0 rfl 1 rfl ?_
  refine z_ifnonnull (pc := 1) (tgt := 5) dX2_addText_1 (by decide) (by omega) ?_
  refine z_iconst (pc := 5) (v := 0) dX2_addText_5 rfl ?_
  refine z_istore_n (pc := 6) (lv' := [(2, AI 0), (0, AR 38), (1, AR (201 + z))]) dX2_addText_6 rfl (by decide) rfl ?_
  have J7 : ∀ (N : Nat) (j : Int) (hk : HI), (0 ≤ j ∧ j ≤ wl z) → (PL (hk 38) (hk 37 1) (L ++ (sgB.getD z []).take j.toNat) ∧ hk 37 1 = hi 37 1 + j) → (Fr [37, 38] hi hk) → ((wl z - j).toNat) < N → Z kX2_addText Q 7 [(2, AI j), (0, AR 38), (1, AR (201 + z))] [] hk := by
    intro N
    induction N with
    | zero => intro j hk _ _ _ _; exact absurd (by assumption) (Nat.not_lt_zero _)
    | succ N ih7 =>
      intro j hk i0 i1 frlhk hm7
      obtain ⟨plk, bk⟩ := i1
      have wz := wl_bd hq
      refine z_iload_n (pc := 7) dX2_addText_7 rfl 0 rfl ?_
      refine z_aload_n (pc := 8) (x := (201 + z)) dX2_addText_8 rfl 2 rfl ?_
      refine z_callVO (pc := 9) (kc := kJ0_length_8abf5) (n := 0) (z := z) (As := []) (stk := [AI j]) ct_J0_length_8abf5 (gdV rfl rfl (iw41 _ (List.mem_of_getElem? (i := 16) rfl)) (iw19 _ (List.mem_of_getElem? (i := 21) rfl)) (iw19 _ (List.mem_of_getElem? (i := 22) rfl)) (iw19 _ (List.mem_of_getElem? (i := 23) rfl)) (iw20 _ (List.mem_of_getElem? (i := 0) rfl))) rfl ⟨rfl, rfl⟩ (by decide +kernel) ⟨by decide, by decide⟩ (by omega) dX2_addText_9 rfl rfl (Nat.le_of_ble_eq_true rfl) ?_
      refine ⟨_, rfl, hq, fun v1 ev1 => ?_⟩
      replace ev1 : v1 = wl z := ev1
      have bwv1 := wl_bd (z := z) (by omega)
      refine z_icmp_ge (pc := 12) (tgt := 30) dX2_addText_12 (by decide) ⟨by omega, by omega⟩ ⟨by omega, by omega⟩ (fun c2 => ?_) (fun c2 => ?_)
      · refine z_vret (pc := 30) rfl dX2_addText_30 ?_
        exact hQ hk ⟨frlhk, ⟨plk.cast (take_end (by unfold wl at *; omega)), by omega⟩⟩
      · refine z_aload_n (pc := 15) (x := 38) dX2_addText_15 rfl 1 rfl ?_
        refine z_aload_n (pc := 16) (x := (201 + z)) dX2_addText_16 rfl 2 rfl ?_
        refine z_iload_n (pc := 17) dX2_addText_17 rfl 0 rfl ?_
        refine z_callVO (pc := 18) (kc := kJ0_charAt_5068e) (n := 1) (z := z) (As := [AI j]) (stk := [AR 38]) ct_J0_charAt_5068e (gdV rfl rfl (iw41 _ (List.mem_of_getElem? (i := 17) rfl)) (iw20 _ (List.mem_of_getElem? (i := 9) rfl)) (iw20 _ (List.mem_of_getElem? (i := 10) rfl)) (iw19 _ (List.mem_of_getElem? (i := 23) rfl)) (iw20 _ (List.mem_of_getElem? (i := 11) rfl))) rfl ⟨rfl, rfl⟩ (by decide +kernel) ⟨by decide, by decide⟩ (by omega) dX2_addText_18 rfl rfl (Nat.le_of_ble_eq_true rfl) ?_
        refine ⟨_, _, rfl, ⟨hq, by omega, by unfold wl at *; omega⟩, fun v3 ev3 => ?_⟩
        have w18 := ev3
        have cz := sgB_ch (z := z) (i := j.toNat) hq (by unfold wl at *; omega)
        refine z_callV (pc := 21) (kc := kX2_addByte) (n := 1) (pl := 37) (ci := 2) (C := RX2) (As := [AI v3]) (stk := []) ct_X2_addByte (gdV rfl rfl (iw41 _ (List.mem_of_getElem? (i := 8) rfl)) (iw41 _ (List.mem_of_getElem? (i := 9) rfl)) (iw41 _ (List.mem_of_getElem? (i := 10) rfl)) (iw2 _ (List.mem_of_getElem? (i := 16) rfl)) (iw41 _ (List.mem_of_getElem? (i := 11) rfl))) rfl ⟨rfl, rfl⟩ (by decide +kernel) ⟨by decide, by decide⟩ (by decide) rfl rfl dX2_addText_21 rfl rfl (Nat.le_of_ble_eq_true rfl) ?_
        refine ⟨_, (L ++ (sgB.getD z []).take j.toNat), rfl, ⟨plk, by omega, by omega⟩, fun h4 eh4 => ?_⟩
        have frh4 : Fr [37, 38] hi h4 := (Fr.call frlhk eh4.1 (by decide))
        have plx := eh4.2.1
        have p37 := eh4.2.2
        refine z_iinc (pc := 24) (j := 0) (w := fun q => (2, AI q) :: [(0, AR 38), (1, AR (201 + z))]) dX2_addText_24 rfl (by decide) (fun _ => rfl) (fun v5 ev5 => ?_)
        refine z_goto (pc := 27) (tgt := 7) dX2_addText_27 (by decide) ?_
        exact ih7 v5 h4 (by omega) (⟨plx.cast (take_step (by omega) (by unfold wl at *; omega) (by omega) w18), by omega⟩) (frh4) (by omega)
  exact J7 _ 0 hi (by have := wl_bd hq; omega) (⟨pl.cast (by simp), by omega⟩) ((Fr.rf)) (Nat.lt_succ_self _)

abbrev kX2_addNumber : Kd := (cX2_addNumber, .code yX2_addNumber cX2_addNumber 2 none :: wsL_law0, rmL 2, RX2, none, 2)
theorem ct_X2_addNumber : Ct kX2_addNumber yX2_addNumber (fun a hi Q => ∃ x : Int, ∃ L : List Int, a = [AR 38, AI x] ∧ (PL (hi 38) (hi 37 1) L ∧ (0 ≤ hi 37 1 ∧ hi 37 1 + 3 ≤ 1280) ∧ 0 ≤ x ∧ x ≤ 999) ∧ ∀ h2 : HI, (Fr [37, 38] hi h2 ∧ (PL (h2 38) (h2 37 1) (L ++ numB x) ∧ hi 37 1 + 1 ≤ h2 37 1 ∧ h2 37 1 ≤ hi 37 1 + 3)) → Q AU h2) := by
  refine Ct.of (ws' := _) (by decide +kernel) rfl rfl ?_
  intro a hi Q hT
  obtain ⟨x, L, rfl, hpre, hQ⟩ := hT
  refine ⟨Nat.le_of_ble_eq_true rfl, ?_⟩
  show Z kX2_addNumber Q 0 [(0, AR 38), (1, AI x)] [] hi
  obtain ⟨pl, b37, hq⟩ := hpre
  refine z_iload_n (pc := 0) dX2_addNumber_0 rfl 1 rfl ?_
  refine z_bipush (pc := 1) (v := 100) dX2_addNumber_1 (by decide +kernel) ?_
  refine z_icmp_lt (pc := 3) (tgt := 17) dX2_addNumber_3 (by decide) ⟨by omega, by omega⟩ ⟨by decide, by decide⟩ (fun c1 => ?_) (fun c1 => ?_)
  · refine z_iload_n (pc := 17) dX2_addNumber_17 rfl 1 rfl ?_
    refine z_bipush (pc := 18) (v := 10) dX2_addNumber_18 (by decide +kernel) ?_
    refine z_icmp_lt (pc := 20) (tgt := 37) dX2_addNumber_20 (by decide) ⟨by omega, by omega⟩ ⟨by decide, by decide⟩ (fun c2 => ?_) (fun c2 => ?_)
    · refine z_aload_n (pc := 37) (x := 38) dX2_addNumber_37 rfl 0 rfl ?_
      refine z_bipush (pc := 38) (v := 48) dX2_addNumber_38 (by decide +kernel) ?_
      refine z_iload_n (pc := 40) dX2_addNumber_40 rfl 1 rfl ?_
      refine z_bipush (pc := 41) (v := 10) dX2_addNumber_41 (by decide +kernel) ?_
      refine z_irem (pc := 43) dX2_addNumber_43 ⟨by omega, by omega⟩ ⟨by decide, by decide⟩ (by omega) (fun v3 ev3 => ?_)
      refine z_iadd (pc := 44) dX2_addNumber_44 (fun v4 ev4 => ?_)
      refine z_callV (pc := 45) (kc := kX2_addByte) (n := 1) (pl := 37) (ci := 2) (C := RX2) (As := [AI v4]) (stk := []) ct_X2_addByte (gdV rfl rfl (iw41 _ (List.mem_of_getElem? (i := 8) rfl)) (iw41 _ (List.mem_of_getElem? (i := 9) rfl)) (iw41 _ (List.mem_of_getElem? (i := 10) rfl)) (iw2 _ (List.mem_of_getElem? (i := 16) rfl)) (iw41 _ (List.mem_of_getElem? (i := 11) rfl))) rfl ⟨rfl, rfl⟩ (by decide +kernel) ⟨by decide, by decide⟩ (by decide) rfl rfl dX2_addNumber_45 rfl rfl (Nat.le_of_ble_eq_true rfl) ?_
      refine ⟨_, L, rfl, ⟨pl, by omega, ⟨by omega, by omega⟩⟩, fun h5 eh5 => ?_⟩
      have frh5 : Fr [37, 38] hi h5 := (Fr.call (Fr.rf) eh5.1 (by decide))
      have plh5 := eh5.2.1
      have pqh5 := eh5.2.2
      refine z_vret (pc := 48) rfl dX2_addNumber_48 ?_
      exact hQ h5 ⟨frh5, by first | (exfalso; omega) | exact ⟨plh5.cast (by rw [num_1 (by omega), show v4 = 48 + x % 10 by omega]), by omega, by omega⟩⟩
    · refine z_aload_n (pc := 23) (x := 38) dX2_addNumber_23 rfl 0 rfl ?_
      refine z_bipush (pc := 24) (v := 48) dX2_addNumber_24 (by decide +kernel) ?_
      refine z_iload_n (pc := 26) dX2_addNumber_26 rfl 1 rfl ?_
      refine z_bipush (pc := 27) (v := 10) dX2_addNumber_27 (by decide +kernel) ?_
      refine z_idiv (pc := 29) dX2_addNumber_29 ⟨by omega, by omega⟩ ⟨by decide, by decide⟩ (by omega) (fun v6 ev6 => ?_)
      refine z_bipush (pc := 30) (v := 10) dX2_addNumber_30 (by decide +kernel) ?_
      refine z_irem (pc := 32) dX2_addNumber_32 ⟨by omega, by omega⟩ ⟨by decide, by decide⟩ (by omega) (fun v7 ev7 => ?_)
      refine z_iadd (pc := 33) dX2_addNumber_33 (fun v8 ev8 => ?_)
      refine z_callV (pc := 34) (kc := kX2_addByte) (n := 1) (pl := 37) (ci := 2) (C := RX2) (As := [AI v8]) (stk := []) ct_X2_addByte (gdV rfl rfl (iw41 _ (List.mem_of_getElem? (i := 8) rfl)) (iw41 _ (List.mem_of_getElem? (i := 9) rfl)) (iw41 _ (List.mem_of_getElem? (i := 10) rfl)) (iw2 _ (List.mem_of_getElem? (i := 16) rfl)) (iw41 _ (List.mem_of_getElem? (i := 11) rfl))) rfl ⟨rfl, rfl⟩ (by decide +kernel) ⟨by decide, by decide⟩ (by decide) rfl rfl dX2_addNumber_34 rfl rfl (Nat.le_of_ble_eq_true rfl) ?_
      refine ⟨_, L, rfl, ⟨pl, by omega, ⟨by omega, by omega⟩⟩, fun h9 eh9 => ?_⟩
      have frh9 : Fr [37, 38] hi h9 := (Fr.call (Fr.rf) eh9.1 (by decide))
      have plh9 := eh9.2.1
      have pqh9 := eh9.2.2
      refine z_aload_n (pc := 37) (x := 38) dX2_addNumber_37 rfl 0 rfl ?_
      refine z_bipush (pc := 38) (v := 48) dX2_addNumber_38 (by decide +kernel) ?_
      refine z_iload_n (pc := 40) dX2_addNumber_40 rfl 1 rfl ?_
      refine z_bipush (pc := 41) (v := 10) dX2_addNumber_41 (by decide +kernel) ?_
      refine z_irem (pc := 43) dX2_addNumber_43 ⟨by omega, by omega⟩ ⟨by decide, by decide⟩ (by omega) (fun v10 ev10 => ?_)
      refine z_iadd (pc := 44) dX2_addNumber_44 (fun v11 ev11 => ?_)
      refine z_callV (pc := 45) (kc := kX2_addByte) (n := 1) (pl := 37) (ci := 2) (C := RX2) (As := [AI v11]) (stk := []) ct_X2_addByte (gdV rfl rfl (iw41 _ (List.mem_of_getElem? (i := 8) rfl)) (iw41 _ (List.mem_of_getElem? (i := 9) rfl)) (iw41 _ (List.mem_of_getElem? (i := 10) rfl)) (iw2 _ (List.mem_of_getElem? (i := 16) rfl)) (iw41 _ (List.mem_of_getElem? (i := 11) rfl))) rfl ⟨rfl, rfl⟩ (by decide +kernel) ⟨by decide, by decide⟩ (by decide) rfl rfl dX2_addNumber_45 rfl rfl (Nat.le_of_ble_eq_true rfl) ?_
      refine ⟨_, (L ++ [v8]), rfl, ⟨plh9, by omega, ⟨by omega, by omega⟩⟩, fun h12 eh12 => ?_⟩
      have frh12 : Fr [37, 38] hi h12 := (Fr.call frh9 eh12.1 (by decide))
      have plh12 := eh12.2.1
      have pqh12 := eh12.2.2
      refine z_vret (pc := 48) rfl dX2_addNumber_48 ?_
      exact hQ h12 ⟨frh12, by first | (exfalso; omega) | exact ⟨plh12.cast (by rw [num_2 (by omega) (by omega), ← app2, show v8 = 48 + x / 10 % 10 by omega, show v11 = 48 + x % 10 by omega]), by omega, by omega⟩⟩
  · refine z_aload_n (pc := 6) (x := 38) dX2_addNumber_6 rfl 0 rfl ?_
    refine z_bipush (pc := 7) (v := 48) dX2_addNumber_7 (by decide +kernel) ?_
    refine z_iload_n (pc := 9) dX2_addNumber_9 rfl 1 rfl ?_
    refine z_bipush (pc := 10) (v := 100) dX2_addNumber_10 (by decide +kernel) ?_
    refine z_idiv (pc := 12) dX2_addNumber_12 ⟨by omega, by omega⟩ ⟨by decide, by decide⟩ (by omega) (fun v13 ev13 => ?_)
    refine z_iadd (pc := 13) dX2_addNumber_13 (fun v14 ev14 => ?_)
    refine z_callV (pc := 14) (kc := kX2_addByte) (n := 1) (pl := 37) (ci := 2) (C := RX2) (As := [AI v14]) (stk := []) ct_X2_addByte (gdV rfl rfl (iw41 _ (List.mem_of_getElem? (i := 8) rfl)) (iw41 _ (List.mem_of_getElem? (i := 9) rfl)) (iw41 _ (List.mem_of_getElem? (i := 10) rfl)) (iw2 _ (List.mem_of_getElem? (i := 16) rfl)) (iw41 _ (List.mem_of_getElem? (i := 11) rfl))) rfl ⟨rfl, rfl⟩ (by decide +kernel) ⟨by decide, by decide⟩ (by decide) rfl rfl dX2_addNumber_14 rfl rfl (Nat.le_of_ble_eq_true rfl) ?_
    refine ⟨_, L, rfl, ⟨pl, by omega, ⟨by omega, by omega⟩⟩, fun h15 eh15 => ?_⟩
    have frh15 : Fr [37, 38] hi h15 := (Fr.call (Fr.rf) eh15.1 (by decide))
    have plh15 := eh15.2.1
    have pqh15 := eh15.2.2
    refine z_iload_n (pc := 17) dX2_addNumber_17 rfl 1 rfl ?_
    refine z_bipush (pc := 18) (v := 10) dX2_addNumber_18 (by decide +kernel) ?_
    refine z_icmp_lt (pc := 20) (tgt := 37) dX2_addNumber_20 (by decide) ⟨by omega, by omega⟩ ⟨by decide, by decide⟩ (fun c16 => ?_) (fun c16 => ?_)
    · refine z_aload_n (pc := 37) (x := 38) dX2_addNumber_37 rfl 0 rfl ?_
      refine z_bipush (pc := 38) (v := 48) dX2_addNumber_38 (by decide +kernel) ?_
      refine z_iload_n (pc := 40) dX2_addNumber_40 rfl 1 rfl ?_
      refine z_bipush (pc := 41) (v := 10) dX2_addNumber_41 (by decide +kernel) ?_
      refine z_irem (pc := 43) dX2_addNumber_43 ⟨by omega, by omega⟩ ⟨by decide, by decide⟩ (by omega) (fun v17 ev17 => ?_)
      refine z_iadd (pc := 44) dX2_addNumber_44 (fun v18 ev18 => ?_)
      refine z_callV (pc := 45) (kc := kX2_addByte) (n := 1) (pl := 37) (ci := 2) (C := RX2) (As := [AI v18]) (stk := []) ct_X2_addByte (gdV rfl rfl (iw41 _ (List.mem_of_getElem? (i := 8) rfl)) (iw41 _ (List.mem_of_getElem? (i := 9) rfl)) (iw41 _ (List.mem_of_getElem? (i := 10) rfl)) (iw2 _ (List.mem_of_getElem? (i := 16) rfl)) (iw41 _ (List.mem_of_getElem? (i := 11) rfl))) rfl ⟨rfl, rfl⟩ (by decide +kernel) ⟨by decide, by decide⟩ (by decide) rfl rfl dX2_addNumber_45 rfl rfl (Nat.le_of_ble_eq_true rfl) ?_
      refine ⟨_, (L ++ [v14]), rfl, ⟨plh15, by omega, ⟨by omega, by omega⟩⟩, fun h19 eh19 => ?_⟩
      have frh19 : Fr [37, 38] hi h19 := (Fr.call frh15 eh19.1 (by decide))
      have plh19 := eh19.2.1
      have pqh19 := eh19.2.2
      refine z_vret (pc := 48) rfl dX2_addNumber_48 ?_
      exact hQ h19 ⟨frh19, by first | (exfalso; omega) | exact ⟨plh19.cast (by rw [num_2 (by omega) (by omega), ← app2, show v14 = 48 + x / 10 % 10 by omega, show v18 = 48 + x % 10 by omega]), by omega, by omega⟩⟩
    · refine z_aload_n (pc := 23) (x := 38) dX2_addNumber_23 rfl 0 rfl ?_
      refine z_bipush (pc := 24) (v := 48) dX2_addNumber_24 (by decide +kernel) ?_
      refine z_iload_n (pc := 26) dX2_addNumber_26 rfl 1 rfl ?_
      refine z_bipush (pc := 27) (v := 10) dX2_addNumber_27 (by decide +kernel) ?_
      refine z_idiv (pc := 29) dX2_addNumber_29 ⟨by omega, by omega⟩ ⟨by decide, by decide⟩ (by omega) (fun v20 ev20 => ?_)
      refine z_bipush (pc := 30) (v := 10) dX2_addNumber_30 (by decide +kernel) ?_
      refine z_irem (pc := 32) dX2_addNumber_32 ⟨by omega, by omega⟩ ⟨by decide, by decide⟩ (by omega) (fun v21 ev21 => ?_)
      refine z_iadd (pc := 33) dX2_addNumber_33 (fun v22 ev22 => ?_)
      refine z_callV (pc := 34) (kc := kX2_addByte) (n := 1) (pl := 37) (ci := 2) (C := RX2) (As := [AI v22]) (stk := []) ct_X2_addByte (gdV rfl rfl (iw41 _ (List.mem_of_getElem? (i := 8) rfl)) (iw41 _ (List.mem_of_getElem? (i := 9) rfl)) (iw41 _ (List.mem_of_getElem? (i := 10) rfl)) (iw2 _ (List.mem_of_getElem? (i := 16) rfl)) (iw41 _ (List.mem_of_getElem? (i := 11) rfl))) rfl ⟨rfl, rfl⟩ (by decide +kernel) ⟨by decide, by decide⟩ (by decide) rfl rfl dX2_addNumber_34 rfl rfl (Nat.le_of_ble_eq_true rfl) ?_
      refine ⟨_, (L ++ [v14]), rfl, ⟨plh15, by omega, ⟨by omega, by omega⟩⟩, fun h23 eh23 => ?_⟩
      have frh23 : Fr [37, 38] hi h23 := (Fr.call frh15 eh23.1 (by decide))
      have plh23 := eh23.2.1
      have pqh23 := eh23.2.2
      refine z_aload_n (pc := 37) (x := 38) dX2_addNumber_37 rfl 0 rfl ?_
      refine z_bipush (pc := 38) (v := 48) dX2_addNumber_38 (by decide +kernel) ?_
      refine z_iload_n (pc := 40) dX2_addNumber_40 rfl 1 rfl ?_
      refine z_bipush (pc := 41) (v := 10) dX2_addNumber_41 (by decide +kernel) ?_
      refine z_irem (pc := 43) dX2_addNumber_43 ⟨by omega, by omega⟩ ⟨by decide, by decide⟩ (by omega) (fun v24 ev24 => ?_)
      refine z_iadd (pc := 44) dX2_addNumber_44 (fun v25 ev25 => ?_)
      refine z_callV (pc := 45) (kc := kX2_addByte) (n := 1) (pl := 37) (ci := 2) (C := RX2) (As := [AI v25]) (stk := []) ct_X2_addByte (gdV rfl rfl (iw41 _ (List.mem_of_getElem? (i := 8) rfl)) (iw41 _ (List.mem_of_getElem? (i := 9) rfl)) (iw41 _ (List.mem_of_getElem? (i := 10) rfl)) (iw2 _ (List.mem_of_getElem? (i := 16) rfl)) (iw41 _ (List.mem_of_getElem? (i := 11) rfl))) rfl ⟨rfl, rfl⟩ (by decide +kernel) ⟨by decide, by decide⟩ (by decide) rfl rfl dX2_addNumber_45 rfl rfl (Nat.le_of_ble_eq_true rfl) ?_
      refine ⟨_, ((L ++ [v14]) ++ [v22]), rfl, ⟨plh23, by omega, ⟨by omega, by omega⟩⟩, fun h26 eh26 => ?_⟩
      have frh26 : Fr [37, 38] hi h26 := (Fr.call frh23 eh26.1 (by decide))
      have plh26 := eh26.2.1
      have pqh26 := eh26.2.2
      refine z_vret (pc := 48) rfl dX2_addNumber_48 ?_
      exact hQ h26 ⟨frh26, by first | (exfalso; omega) | exact ⟨plh26.cast (by rw [num_3 (by omega), ← app3, show v14 = 48 + x / 100 by omega, show v22 = 48 + x / 10 % 10 by omega, show v25 = 48 + x % 10 by omega]), by omega, by omega⟩⟩

abbrev kX7_writeLife : Kd := (cX7_writeLife, .code yX7_writeLife cX7_writeLife 2 none :: wsL_law0, rmL 7, RX7, none, 2)
theorem ct_X7_writeLife : Ct kX7_writeLife yX7_writeLife (fun a hi Q => ∃ k : Int, ∃ L : List Int, a = [AR 1, AI k] ∧ (RI (hi 2) (hi 2 1) ∧ (0 ≤ k ∧ k < hi 2 1) ∧ PL (hi 38) (hi 37 1) L ∧ (0 ≤ hi 37 1 ∧ hi 37 1 + 32 ≤ 1280)) ∧ ∀ h2 : HI, (Fr [37, 38] hi h2 ∧ (PL (h2 38) (h2 37 1) (L ++ lifeB (hi 2) k) ∧ hi 37 1 ≤ h2 37 1 ∧ h2 37 1 ≤ hi 37 1 + 32)) → Q AU h2) := by
  refine Ct.of (ws' := _) (by decide +kernel) rfl rfl ?_
  intro a hi Q hT
  obtain ⟨k, L, rfl, hpre, hQ⟩ := hT
  refine ⟨Nat.le_of_ble_eq_true rfl, ?_⟩
  show Z kX7_writeLife Q 0 [(0, AR 1), (1, AI k)] [] hi
  obtain ⟨ri, hk, pl, b37⟩ := hpre
  have rk := toRng ri hk
  have n40 := ri.1
  have ww := w41
  refine z_aload_n (pc := 0) (x := 1) dX7_writeLife_0 rfl 0 rfl ?_
  refine z_getR (pc := 1) (pl := 0) (f := 7) (ci := 6) (C := RX7) (T := TX7) (N := 13) hu_X7 (by decide) rfl rfl (by decide) rfl (List.mem_cons_of_mem _ (iw2 _ (List.mem_of_getElem? (i := 17) rfl))) rfl dX7_writeLife_1 ?_
  refine z_aload_n (pc := 4) (x := 1) dX7_writeLife_4 rfl 0 rfl ?_
  refine z_getR (pc := 5) (pl := 0) (f := 0) (ci := 6) (C := RX7) (T := TX7) (N := 13) hu_X7 (by decide) rfl rfl (by decide) rfl (List.mem_cons_of_mem _ (iw1 _ (List.mem_of_getElem? (i := 16) rfl))) rfl dX7_writeLife_5 ?_
  refine z_iload_n (pc := 8) dX7_writeLife_8 rfl 1 rfl ?_
  refine z_callV (pc := 9) (kc := kX1_numberOf) (n := 1) (pl := 1) (ci := 1) (C := RX1) (As := [AI k]) (stk := [AR 38]) ct_X1_numberOf (gdV rfl rfl (iw12 _ (List.mem_of_getElem? (i := 7) rfl)) (iw7 _ (List.mem_of_getElem? (i := 6) rfl)) (iw7 _ (List.mem_of_getElem? (i := 7) rfl)) (iw1 _ (List.mem_of_getElem? (i := 15) rfl)) (iw7 _ (List.mem_of_getElem? (i := 8) rfl))) rfl ⟨rfl, rfl⟩ (by decide +kernel) ⟨by decide, by decide⟩ (by decide) rfl rfl dX7_writeLife_9 rfl rfl (Nat.le_of_ble_eq_true rfl) ?_
  refine ⟨_, rfl, by omega, fun v1 ev1 => ?_⟩
  refine z_callV (pc := 12) (kc := kX2_addNumber) (n := 1) (pl := 37) (ci := 2) (C := RX2) (As := [AI v1]) (stk := []) ct_X2_addNumber (gdV rfl rfl (iw41 _ (List.mem_of_getElem? (i := 4) rfl)) (iw41 _ (List.mem_of_getElem? (i := 5) rfl)) (iw41 _ (List.mem_of_getElem? (i := 6) rfl)) (iw2 _ (List.mem_of_getElem? (i := 16) rfl)) (iw41 _ (List.mem_of_getElem? (i := 7) rfl))) rfl ⟨rfl, rfl⟩ (by decide +kernel) ⟨by decide, by decide⟩ (by decide) rfl rfl dX7_writeLife_12 rfl rfl (Nat.le_of_ble_eq_true rfl) ?_
  refine ⟨_, L, rfl, ⟨pl, by omega, by omega⟩, fun h2 eh2 => ?_⟩
  have frh2 : Fr [37, 38] hi h2 := (Fr.call (Fr.rf) eh2.1 (by decide))
  rw [show v1 = nO (hi 2) k by omega] at eh2
  have plh2 := eh2.2.1
  have pqh2 := eh2.2.2
  refine z_aload_n (pc := 15) (x := 1) dX7_writeLife_15 rfl 0 rfl ?_
  refine z_getR (pc := 16) (pl := 0) (f := 7) (ci := 6) (C := RX7) (T := TX7) (N := 13) hu_X7 (by decide) rfl rfl (by decide) rfl (List.mem_cons_of_mem _ (iw2 _ (List.mem_of_getElem? (i := 17) rfl))) rfl dX7_writeLife_16 ?_
  refine z_ldcS (pc := 19) (z := 41) (idx := 315) rfl (fun ad s h => ⟨_, h.1.1⟩) dX7_writeLife_19 ?_
  refine z_callV (pc := 22) (kc := kX2_addText) (n := 1) (pl := 37) (ci := 2) (C := RX2) (As := [AR (201 + 41)]) (stk := []) ct_X2_addText (gdV rfl rfl (iw41 _ (List.mem_of_getElem? (i := 12) rfl)) (iw41 _ (List.mem_of_getElem? (i := 13) rfl)) (iw41 _ (List.mem_of_getElem? (i := 14) rfl)) (iw2 _ (List.mem_of_getElem? (i := 16) rfl)) (iw41 _ (List.mem_of_getElem? (i := 15) rfl))) rfl ⟨rfl, rfl⟩ (by decide +kernel) ⟨by decide, by decide⟩ (by decide) rfl rfl dX7_writeLife_22 rfl rfl (Nat.le_of_ble_eq_true rfl) ?_
  refine ⟨_, (L ++ numB (nO (hi 2) k)), rfl, ⟨plh2, by omega, by decide⟩, fun h3 eh3 => ?_⟩
  have frh3 : Fr [37, 38] hi h3 := (Fr.call frh2 eh3.1 (by decide))
  have plh3 := eh3.2.1
  have pqh3 := eh3.2.2
  refine z_aload_n (pc := 25) (x := 1) dX7_writeLife_25 rfl 0 rfl ?_
  refine z_getR (pc := 26) (pl := 0) (f := 7) (ci := 6) (C := RX7) (T := TX7) (N := 13) hu_X7 (by decide) rfl rfl (by decide) rfl (List.mem_cons_of_mem _ (iw2 _ (List.mem_of_getElem? (i := 17) rfl))) rfl dX7_writeLife_26 ?_
  refine z_aload_n (pc := 29) (x := 1) dX7_writeLife_29 rfl 0 rfl ?_
  refine z_getR (pc := 30) (pl := 0) (f := 0) (ci := 6) (C := RX7) (T := TX7) (N := 13) hu_X7 (by decide) rfl rfl (by decide) rfl (List.mem_cons_of_mem _ (iw1 _ (List.mem_of_getElem? (i := 16) rfl))) rfl dX7_writeLife_30 ?_
  refine z_iload_n (pc := 33) dX7_writeLife_33 rfl 1 rfl ?_
  refine z_callV (pc := 34) (kc := kX1_birthOf) (n := 1) (pl := 1) (ci := 1) (C := RX1) (As := [AI k]) (stk := [AR 38]) ct_X1_birthOf (gdV rfl rfl (iw12 _ (List.mem_of_getElem? (i := 2) rfl)) (iw7 _ (List.mem_of_getElem? (i := 10) rfl)) (iw7 _ (List.mem_of_getElem? (i := 11) rfl)) (iw1 _ (List.mem_of_getElem? (i := 15) rfl)) (iw7 _ (List.mem_of_getElem? (i := 12) rfl))) rfl ⟨rfl, rfl⟩ (by decide +kernel) ⟨by decide, by decide⟩ (by decide) rfl rfl dX7_writeLife_34 rfl rfl (Nat.le_of_ble_eq_true rfl) ?_
  refine ⟨_, rfl, by omega, fun v4 ev4 => ?_⟩
  try rw [(eh3.1 2 (by decide) : h3 2 = h2 2), (eh2.1 2 (by decide) : h2 2 = hi 2)] at ev4
  refine z_callV (pc := 37) (kc := kX2_addNumber) (n := 1) (pl := 37) (ci := 2) (C := RX2) (As := [AI v4]) (stk := []) ct_X2_addNumber (gdV rfl rfl (iw41 _ (List.mem_of_getElem? (i := 4) rfl)) (iw41 _ (List.mem_of_getElem? (i := 5) rfl)) (iw41 _ (List.mem_of_getElem? (i := 6) rfl)) (iw2 _ (List.mem_of_getElem? (i := 16) rfl)) (iw41 _ (List.mem_of_getElem? (i := 7) rfl))) rfl ⟨rfl, rfl⟩ (by decide +kernel) ⟨by decide, by decide⟩ (by decide) rfl rfl dX7_writeLife_37 rfl rfl (Nat.le_of_ble_eq_true rfl) ?_
  refine ⟨_, ((L ++ numB (nO (hi 2) k)) ++ sgB.getD 41 []), rfl, ⟨plh3, by omega, by omega⟩, fun h5 eh5 => ?_⟩
  have frh5 : Fr [37, 38] hi h5 := (Fr.call frh3 eh5.1 (by decide))
  rw [show v4 = bO (hi 2) k by omega] at eh5
  have plh5 := eh5.2.1
  have pqh5 := eh5.2.2
  refine z_aload_n (pc := 40) (x := 1) dX7_writeLife_40 rfl 0 rfl ?_
  refine z_getR (pc := 41) (pl := 0) (f := 0) (ci := 6) (C := RX7) (T := TX7) (N := 13) hu_X7 (by decide) rfl rfl (by decide) rfl (List.mem_cons_of_mem _ (iw1 _ (List.mem_of_getElem? (i := 16) rfl))) rfl dX7_writeLife_41 ?_
  refine z_iload_n (pc := 44) dX7_writeLife_44 rfl 1 rfl ?_
  refine z_callV (pc := 45) (kc := kX1_deathOf) (n := 1) (pl := 1) (ci := 1) (C := RX1) (As := [AI k]) (stk := []) ct_X1_deathOf (gdV rfl rfl (iw14 _ (List.mem_of_getElem? (i := 8) rfl)) (iw7 _ (List.mem_of_getElem? (i := 14) rfl)) (iw7 _ (List.mem_of_getElem? (i := 15) rfl)) (iw1 _ (List.mem_of_getElem? (i := 15) rfl)) (iw7 _ (List.mem_of_getElem? (i := 16) rfl))) rfl ⟨rfl, rfl⟩ (by decide +kernel) ⟨by decide, by decide⟩ (by decide) rfl rfl dX7_writeLife_45 rfl rfl (Nat.le_of_ble_eq_true rfl) ?_
  refine ⟨_, rfl, by omega, fun v6 ev6 => ?_⟩
  try rw [(eh5.1 2 (by decide) : h5 2 = h3 2), (eh3.1 2 (by decide) : h3 2 = h2 2), (eh2.1 2 (by decide) : h2 2 = hi 2)] at ev6
  refine z_bipush (pc := 48) (v := 64) dX7_writeLife_48 (by decide +kernel) ?_
  refine z_icmp_ne (pc := 50) (tgt := 66) dX7_writeLife_50 (by decide) ⟨by omega, by omega⟩ ⟨by decide, by decide⟩ (fun c7 => ?_) (fun c7 => ?_)
  · refine z_aload_n (pc := 66) (x := 1) dX7_writeLife_66 rfl 0 rfl ?_
    refine z_getR (pc := 67) (pl := 0) (f := 7) (ci := 6) (C := RX7) (T := TX7) (N := 13) hu_X7 (by decide) rfl rfl (by decide) rfl (List.mem_cons_of_mem _ (iw2 _ (List.mem_of_getElem? (i := 17) rfl))) rfl dX7_writeLife_67 ?_
    refine z_ldcS (pc := 70) (z := 43) (idx := 323) rfl (fun ad s h => ⟨_, h.1.2.2.1⟩) dX7_writeLife_70 ?_
    refine z_callV (pc := 73) (kc := kX2_addText) (n := 1) (pl := 37) (ci := 2) (C := RX2) (As := [AR (201 + 43)]) (stk := []) ct_X2_addText (gdV rfl rfl (iw41 _ (List.mem_of_getElem? (i := 12) rfl)) (iw41 _ (List.mem_of_getElem? (i := 13) rfl)) (iw41 _ (List.mem_of_getElem? (i := 14) rfl)) (iw2 _ (List.mem_of_getElem? (i := 16) rfl)) (iw41 _ (List.mem_of_getElem? (i := 15) rfl))) rfl ⟨rfl, rfl⟩ (by decide +kernel) ⟨by decide, by decide⟩ (by decide) rfl rfl dX7_writeLife_73 rfl rfl (Nat.le_of_ble_eq_true rfl) ?_
    refine ⟨_, (((L ++ numB (nO (hi 2) k)) ++ sgB.getD 41 []) ++ numB (bO (hi 2) k)), rfl, ⟨plh5, by omega, by decide⟩, fun h8 eh8 => ?_⟩
    have frh8 : Fr [37, 38] hi h8 := (Fr.call frh5 eh8.1 (by decide))
    have plh8 := eh8.2.1
    have pqh8 := eh8.2.2
    refine z_aload_n (pc := 76) (x := 1) dX7_writeLife_76 rfl 0 rfl ?_
    refine z_getR (pc := 77) (pl := 0) (f := 7) (ci := 6) (C := RX7) (T := TX7) (N := 13) hu_X7 (by decide) rfl rfl (by decide) rfl (List.mem_cons_of_mem _ (iw2 _ (List.mem_of_getElem? (i := 17) rfl))) rfl dX7_writeLife_77 ?_
    refine z_aload_n (pc := 80) (x := 1) dX7_writeLife_80 rfl 0 rfl ?_
    refine z_getR (pc := 81) (pl := 0) (f := 0) (ci := 6) (C := RX7) (T := TX7) (N := 13) hu_X7 (by decide) rfl rfl (by decide) rfl (List.mem_cons_of_mem _ (iw1 _ (List.mem_of_getElem? (i := 16) rfl))) rfl dX7_writeLife_81 ?_
    refine z_iload_n (pc := 84) dX7_writeLife_84 rfl 1 rfl ?_
    refine z_callV (pc := 85) (kc := kX1_deathOf) (n := 1) (pl := 1) (ci := 1) (C := RX1) (As := [AI k]) (stk := [AR 38]) ct_X1_deathOf (gdV rfl rfl (iw14 _ (List.mem_of_getElem? (i := 8) rfl)) (iw7 _ (List.mem_of_getElem? (i := 14) rfl)) (iw7 _ (List.mem_of_getElem? (i := 15) rfl)) (iw1 _ (List.mem_of_getElem? (i := 15) rfl)) (iw7 _ (List.mem_of_getElem? (i := 16) rfl))) rfl ⟨rfl, rfl⟩ (by decide +kernel) ⟨by decide, by decide⟩ (by decide) rfl rfl dX7_writeLife_85 rfl rfl (Nat.le_of_ble_eq_true rfl) ?_
    refine ⟨_, rfl, by omega, fun v9 ev9 => ?_⟩
    try rw [(eh8.1 2 (by decide) : h8 2 = h5 2), (eh5.1 2 (by decide) : h5 2 = h3 2), (eh3.1 2 (by decide) : h3 2 = h2 2), (eh2.1 2 (by decide) : h2 2 = hi 2)] at ev9
    refine z_callV (pc := 88) (kc := kX2_addNumber) (n := 1) (pl := 37) (ci := 2) (C := RX2) (As := [AI v9]) (stk := []) ct_X2_addNumber (gdV rfl rfl (iw41 _ (List.mem_of_getElem? (i := 4) rfl)) (iw41 _ (List.mem_of_getElem? (i := 5) rfl)) (iw41 _ (List.mem_of_getElem? (i := 6) rfl)) (iw2 _ (List.mem_of_getElem? (i := 16) rfl)) (iw41 _ (List.mem_of_getElem? (i := 7) rfl))) rfl ⟨rfl, rfl⟩ (by decide +kernel) ⟨by decide, by decide⟩ (by decide) rfl rfl dX7_writeLife_88 rfl rfl (Nat.le_of_ble_eq_true rfl) ?_
    refine ⟨_, ((((L ++ numB (nO (hi 2) k)) ++ sgB.getD 41 []) ++ numB (bO (hi 2) k)) ++ sgB.getD 43 []), rfl, ⟨plh8, by omega, by omega⟩, fun h10 eh10 => ?_⟩
    have frh10 : Fr [37, 38] hi h10 := (Fr.call frh8 eh10.1 (by decide))
    rw [show v9 = dO (hi 2) k by omega] at eh10
    have plh10 := eh10.2.1
    have pqh10 := eh10.2.2
    refine z_aload_n (pc := 91) (x := 1) dX7_writeLife_91 rfl 0 rfl ?_
    refine z_getR (pc := 92) (pl := 0) (f := 0) (ci := 6) (C := RX7) (T := TX7) (N := 13) hu_X7 (by decide) rfl rfl (by decide) rfl (List.mem_cons_of_mem _ (iw1 _ (List.mem_of_getElem? (i := 16) rfl))) rfl dX7_writeLife_92 ?_
    refine z_iload_n (pc := 95) dX7_writeLife_95 rfl 1 rfl ?_
    refine z_callV (pc := 96) (kc := kX1_worthOf) (n := 1) (pl := 1) (ci := 1) (C := RX1) (As := [AI k]) (stk := []) ct_X1_worthOf (gdV rfl rfl (iw12 _ (List.mem_of_getElem? (i := 8) rfl)) (iw12 _ (List.mem_of_getElem? (i := 9) rfl)) (iw12 _ (List.mem_of_getElem? (i := 10) rfl)) (iw1 _ (List.mem_of_getElem? (i := 15) rfl)) (iw12 _ (List.mem_of_getElem? (i := 11) rfl))) rfl ⟨rfl, rfl⟩ (by decide +kernel) ⟨by decide, by decide⟩ (by decide) rfl rfl dX7_writeLife_96 rfl rfl (Nat.le_of_ble_eq_true rfl) ?_
    refine ⟨_, rfl, by omega, fun v11 ev11 => ?_⟩
    try rw [(eh10.1 2 (by decide) : h10 2 = h8 2), (eh8.1 2 (by decide) : h8 2 = h5 2), (eh5.1 2 (by decide) : h5 2 = h3 2), (eh3.1 2 (by decide) : h3 2 = h2 2), (eh2.1 2 (by decide) : h2 2 = hi 2)] at ev11
    refine z_if_eq (pc := 99) (tgt := 127) dX7_writeLife_99 (by decide) ⟨by omega, by omega⟩ (fun c12 => ?_) (fun c12 => ?_)
    · refine z_aload_n (pc := 127) (x := 1) dX7_writeLife_127 rfl 0 rfl ?_
      refine z_getR (pc := 128) (pl := 0) (f := 7) (ci := 6) (C := RX7) (T := TX7) (N := 13) hu_X7 (by decide) rfl rfl (by decide) rfl (List.mem_cons_of_mem _ (iw2 _ (List.mem_of_getElem? (i := 17) rfl))) rfl dX7_writeLife_128 ?_
      refine z_ldcS (pc := 131) (z := 45) (idx := 327) rfl (fun ad s h => ⟨_, h.1.2.2.2.2⟩) dX7_writeLife_131 ?_
      refine z_callV (pc := 134) (kc := kX2_addText) (n := 1) (pl := 37) (ci := 2) (C := RX2) (As := [AR (201 + 45)]) (stk := []) ct_X2_addText (gdV rfl rfl (iw41 _ (List.mem_of_getElem? (i := 12) rfl)) (iw41 _ (List.mem_of_getElem? (i := 13) rfl)) (iw41 _ (List.mem_of_getElem? (i := 14) rfl)) (iw2 _ (List.mem_of_getElem? (i := 16) rfl)) (iw41 _ (List.mem_of_getElem? (i := 15) rfl))) rfl ⟨rfl, rfl⟩ (by decide +kernel) ⟨by decide, by decide⟩ (by decide) rfl rfl dX7_writeLife_134 rfl rfl (Nat.le_of_ble_eq_true rfl) ?_
      refine ⟨_, (((((L ++ numB (nO (hi 2) k)) ++ sgB.getD 41 []) ++ numB (bO (hi 2) k)) ++ sgB.getD 43 []) ++ numB (dO (hi 2) k)), rfl, ⟨plh10, by omega, by decide⟩, fun h13 eh13 => ?_⟩
      have frh13 : Fr [37, 38] hi h13 := (Fr.call frh10 eh13.1 (by decide))
      have plh13 := eh13.2.1
      have pqh13 := eh13.2.2
      refine z_vret (pc := 137) rfl dX7_writeLife_137 ?_
      exact hQ h13 ⟨frh13, ⟨plh13.cast (lifeB_30 (by omega) (by omega)), by omega, by omega⟩⟩
    · refine z_aload_n (pc := 102) (x := 1) dX7_writeLife_102 rfl 0 rfl ?_
      refine z_getR (pc := 103) (pl := 0) (f := 7) (ci := 6) (C := RX7) (T := TX7) (N := 13) hu_X7 (by decide) rfl rfl (by decide) rfl (List.mem_cons_of_mem _ (iw2 _ (List.mem_of_getElem? (i := 17) rfl))) rfl dX7_writeLife_103 ?_
      refine z_ldcS (pc := 106) (z := 44) (idx := 325) rfl (fun ad s h => ⟨_, h.1.2.2.2.1⟩) dX7_writeLife_106 ?_
      refine z_callV (pc := 109) (kc := kX2_addText) (n := 1) (pl := 37) (ci := 2) (C := RX2) (As := [AR (201 + 44)]) (stk := []) ct_X2_addText (gdV rfl rfl (iw41 _ (List.mem_of_getElem? (i := 12) rfl)) (iw41 _ (List.mem_of_getElem? (i := 13) rfl)) (iw41 _ (List.mem_of_getElem? (i := 14) rfl)) (iw2 _ (List.mem_of_getElem? (i := 16) rfl)) (iw41 _ (List.mem_of_getElem? (i := 15) rfl))) rfl ⟨rfl, rfl⟩ (by decide +kernel) ⟨by decide, by decide⟩ (by decide) rfl rfl dX7_writeLife_109 rfl rfl (Nat.le_of_ble_eq_true rfl) ?_
      refine ⟨_, (((((L ++ numB (nO (hi 2) k)) ++ sgB.getD 41 []) ++ numB (bO (hi 2) k)) ++ sgB.getD 43 []) ++ numB (dO (hi 2) k)), rfl, ⟨plh10, by omega, by decide⟩, fun h14 eh14 => ?_⟩
      have frh14 : Fr [37, 38] hi h14 := (Fr.call frh10 eh14.1 (by decide))
      have plh14 := eh14.2.1
      have pqh14 := eh14.2.2
      refine z_aload_n (pc := 112) (x := 1) dX7_writeLife_112 rfl 0 rfl ?_
      refine z_getR (pc := 113) (pl := 0) (f := 7) (ci := 6) (C := RX7) (T := TX7) (N := 13) hu_X7 (by decide) rfl rfl (by decide) rfl (List.mem_cons_of_mem _ (iw2 _ (List.mem_of_getElem? (i := 17) rfl))) rfl dX7_writeLife_113 ?_
      refine z_aload_n (pc := 116) (x := 1) dX7_writeLife_116 rfl 0 rfl ?_
      refine z_getR (pc := 117) (pl := 0) (f := 0) (ci := 6) (C := RX7) (T := TX7) (N := 13) hu_X7 (by decide) rfl rfl (by decide) rfl (List.mem_cons_of_mem _ (iw1 _ (List.mem_of_getElem? (i := 16) rfl))) rfl dX7_writeLife_117 ?_
      refine z_iload_n (pc := 120) dX7_writeLife_120 rfl 1 rfl ?_
      refine z_callV (pc := 121) (kc := kX1_worthOf) (n := 1) (pl := 1) (ci := 1) (C := RX1) (As := [AI k]) (stk := [AR 38]) ct_X1_worthOf (gdV rfl rfl (iw12 _ (List.mem_of_getElem? (i := 8) rfl)) (iw12 _ (List.mem_of_getElem? (i := 9) rfl)) (iw12 _ (List.mem_of_getElem? (i := 10) rfl)) (iw1 _ (List.mem_of_getElem? (i := 15) rfl)) (iw12 _ (List.mem_of_getElem? (i := 11) rfl))) rfl ⟨rfl, rfl⟩ (by decide +kernel) ⟨by decide, by decide⟩ (by decide) rfl rfl dX7_writeLife_121 rfl rfl (Nat.le_of_ble_eq_true rfl) ?_
      refine ⟨_, rfl, by omega, fun v15 ev15 => ?_⟩
      try rw [(eh14.1 2 (by decide) : h14 2 = h10 2), (eh10.1 2 (by decide) : h10 2 = h8 2), (eh8.1 2 (by decide) : h8 2 = h5 2), (eh5.1 2 (by decide) : h5 2 = h3 2), (eh3.1 2 (by decide) : h3 2 = h2 2), (eh2.1 2 (by decide) : h2 2 = hi 2)] at ev15
      refine z_callV (pc := 124) (kc := kX2_addNumber) (n := 1) (pl := 37) (ci := 2) (C := RX2) (As := [AI v15]) (stk := []) ct_X2_addNumber (gdV rfl rfl (iw41 _ (List.mem_of_getElem? (i := 4) rfl)) (iw41 _ (List.mem_of_getElem? (i := 5) rfl)) (iw41 _ (List.mem_of_getElem? (i := 6) rfl)) (iw2 _ (List.mem_of_getElem? (i := 16) rfl)) (iw41 _ (List.mem_of_getElem? (i := 7) rfl))) rfl ⟨rfl, rfl⟩ (by decide +kernel) ⟨by decide, by decide⟩ (by decide) rfl rfl dX7_writeLife_124 rfl rfl (Nat.le_of_ble_eq_true rfl) ?_
      refine ⟨_, ((((((L ++ numB (nO (hi 2) k)) ++ sgB.getD 41 []) ++ numB (bO (hi 2) k)) ++ sgB.getD 43 []) ++ numB (dO (hi 2) k)) ++ sgB.getD 44 []), rfl, ⟨plh14, by omega, by omega⟩, fun h16 eh16 => ?_⟩
      have frh16 : Fr [37, 38] hi h16 := (Fr.call frh14 eh16.1 (by decide))
      rw [show v15 = wO (hi 2) k by omega] at eh16
      have plh16 := eh16.2.1
      have pqh16 := eh16.2.2
      refine z_aload_n (pc := 127) (x := 1) dX7_writeLife_127 rfl 0 rfl ?_
      refine z_getR (pc := 128) (pl := 0) (f := 7) (ci := 6) (C := RX7) (T := TX7) (N := 13) hu_X7 (by decide) rfl rfl (by decide) rfl (List.mem_cons_of_mem _ (iw2 _ (List.mem_of_getElem? (i := 17) rfl))) rfl dX7_writeLife_128 ?_
      refine z_ldcS (pc := 131) (z := 45) (idx := 327) rfl (fun ad s h => ⟨_, h.1.2.2.2.2⟩) dX7_writeLife_131 ?_
      refine z_callV (pc := 134) (kc := kX2_addText) (n := 1) (pl := 37) (ci := 2) (C := RX2) (As := [AR (201 + 45)]) (stk := []) ct_X2_addText (gdV rfl rfl (iw41 _ (List.mem_of_getElem? (i := 12) rfl)) (iw41 _ (List.mem_of_getElem? (i := 13) rfl)) (iw41 _ (List.mem_of_getElem? (i := 14) rfl)) (iw2 _ (List.mem_of_getElem? (i := 16) rfl)) (iw41 _ (List.mem_of_getElem? (i := 15) rfl))) rfl ⟨rfl, rfl⟩ (by decide +kernel) ⟨by decide, by decide⟩ (by decide) rfl rfl dX7_writeLife_134 rfl rfl (Nat.le_of_ble_eq_true rfl) ?_
      refine ⟨_, (((((((L ++ numB (nO (hi 2) k)) ++ sgB.getD 41 []) ++ numB (bO (hi 2) k)) ++ sgB.getD 43 []) ++ numB (dO (hi 2) k)) ++ sgB.getD 44 []) ++ numB (wO (hi 2) k)), rfl, ⟨plh16, by omega, by decide⟩, fun h17 eh17 => ?_⟩
      have frh17 : Fr [37, 38] hi h17 := (Fr.call frh16 eh17.1 (by decide))
      have plh17 := eh17.2.1
      have pqh17 := eh17.2.2
      refine z_vret (pc := 137) rfl dX7_writeLife_137 ?_
      exact hQ h17 ⟨frh17, ⟨plh17.cast (lifeB_31 (by omega) (by omega)), by omega, by omega⟩⟩
  · refine z_aload_n (pc := 53) (x := 1) dX7_writeLife_53 rfl 0 rfl ?_
    refine z_getR (pc := 54) (pl := 0) (f := 7) (ci := 6) (C := RX7) (T := TX7) (N := 13) hu_X7 (by decide) rfl rfl (by decide) rfl (List.mem_cons_of_mem _ (iw2 _ (List.mem_of_getElem? (i := 17) rfl))) rfl dX7_writeLife_54 ?_
    refine z_ldcS (pc := 57) (z := 42) (idx := 321) rfl (fun ad s h => ⟨_, h.1.2.1⟩) dX7_writeLife_57 ?_
    refine z_callV (pc := 60) (kc := kX2_addText) (n := 1) (pl := 37) (ci := 2) (C := RX2) (As := [AR (201 + 42)]) (stk := []) ct_X2_addText (gdV rfl rfl (iw41 _ (List.mem_of_getElem? (i := 12) rfl)) (iw41 _ (List.mem_of_getElem? (i := 13) rfl)) (iw41 _ (List.mem_of_getElem? (i := 14) rfl)) (iw2 _ (List.mem_of_getElem? (i := 16) rfl)) (iw41 _ (List.mem_of_getElem? (i := 15) rfl))) rfl ⟨rfl, rfl⟩ (by decide +kernel) ⟨by decide, by decide⟩ (by decide) rfl rfl dX7_writeLife_60 rfl rfl (Nat.le_of_ble_eq_true rfl) ?_
    refine ⟨_, (((L ++ numB (nO (hi 2) k)) ++ sgB.getD 41 []) ++ numB (bO (hi 2) k)), rfl, ⟨plh5, by omega, by decide⟩, fun h18 eh18 => ?_⟩
    have frh18 : Fr [37, 38] hi h18 := (Fr.call frh5 eh18.1 (by decide))
    have plh18 := eh18.2.1
    have pqh18 := eh18.2.2
    refine z_goto (pc := 63) (tgt := 91) dX7_writeLife_63 (by decide) ?_
    refine z_aload_n (pc := 91) (x := 1) dX7_writeLife_91 rfl 0 rfl ?_
    refine z_getR (pc := 92) (pl := 0) (f := 0) (ci := 6) (C := RX7) (T := TX7) (N := 13) hu_X7 (by decide) rfl rfl (by decide) rfl (List.mem_cons_of_mem _ (iw1 _ (List.mem_of_getElem? (i := 16) rfl))) rfl dX7_writeLife_92 ?_
    refine z_iload_n (pc := 95) dX7_writeLife_95 rfl 1 rfl ?_
    refine z_callV (pc := 96) (kc := kX1_worthOf) (n := 1) (pl := 1) (ci := 1) (C := RX1) (As := [AI k]) (stk := []) ct_X1_worthOf (gdV rfl rfl (iw12 _ (List.mem_of_getElem? (i := 8) rfl)) (iw12 _ (List.mem_of_getElem? (i := 9) rfl)) (iw12 _ (List.mem_of_getElem? (i := 10) rfl)) (iw1 _ (List.mem_of_getElem? (i := 15) rfl)) (iw12 _ (List.mem_of_getElem? (i := 11) rfl))) rfl ⟨rfl, rfl⟩ (by decide +kernel) ⟨by decide, by decide⟩ (by decide) rfl rfl dX7_writeLife_96 rfl rfl (Nat.le_of_ble_eq_true rfl) ?_
    refine ⟨_, rfl, by omega, fun v19 ev19 => ?_⟩
    try rw [(eh18.1 2 (by decide) : h18 2 = h5 2), (eh5.1 2 (by decide) : h5 2 = h3 2), (eh3.1 2 (by decide) : h3 2 = h2 2), (eh2.1 2 (by decide) : h2 2 = hi 2)] at ev19
    refine z_if_eq (pc := 99) (tgt := 127) dX7_writeLife_99 (by decide) ⟨by omega, by omega⟩ (fun c20 => ?_) (fun c20 => ?_)
    · refine z_aload_n (pc := 127) (x := 1) dX7_writeLife_127 rfl 0 rfl ?_
      refine z_getR (pc := 128) (pl := 0) (f := 7) (ci := 6) (C := RX7) (T := TX7) (N := 13) hu_X7 (by decide) rfl rfl (by decide) rfl (List.mem_cons_of_mem _ (iw2 _ (List.mem_of_getElem? (i := 17) rfl))) rfl dX7_writeLife_128 ?_
      refine z_ldcS (pc := 131) (z := 45) (idx := 327) rfl (fun ad s h => ⟨_, h.1.2.2.2.2⟩) dX7_writeLife_131 ?_
      refine z_callV (pc := 134) (kc := kX2_addText) (n := 1) (pl := 37) (ci := 2) (C := RX2) (As := [AR (201 + 45)]) (stk := []) ct_X2_addText (gdV rfl rfl (iw41 _ (List.mem_of_getElem? (i := 12) rfl)) (iw41 _ (List.mem_of_getElem? (i := 13) rfl)) (iw41 _ (List.mem_of_getElem? (i := 14) rfl)) (iw2 _ (List.mem_of_getElem? (i := 16) rfl)) (iw41 _ (List.mem_of_getElem? (i := 15) rfl))) rfl ⟨rfl, rfl⟩ (by decide +kernel) ⟨by decide, by decide⟩ (by decide) rfl rfl dX7_writeLife_134 rfl rfl (Nat.le_of_ble_eq_true rfl) ?_
      refine ⟨_, ((((L ++ numB (nO (hi 2) k)) ++ sgB.getD 41 []) ++ numB (bO (hi 2) k)) ++ sgB.getD 42 []), rfl, ⟨plh18, by omega, by decide⟩, fun h21 eh21 => ?_⟩
      have frh21 : Fr [37, 38] hi h21 := (Fr.call frh18 eh21.1 (by decide))
      have plh21 := eh21.2.1
      have pqh21 := eh21.2.2
      refine z_vret (pc := 137) rfl dX7_writeLife_137 ?_
      exact hQ h21 ⟨frh21, ⟨plh21.cast (lifeB_40 (by omega) (by omega)), by omega, by omega⟩⟩
    · refine z_aload_n (pc := 102) (x := 1) dX7_writeLife_102 rfl 0 rfl ?_
      refine z_getR (pc := 103) (pl := 0) (f := 7) (ci := 6) (C := RX7) (T := TX7) (N := 13) hu_X7 (by decide) rfl rfl (by decide) rfl (List.mem_cons_of_mem _ (iw2 _ (List.mem_of_getElem? (i := 17) rfl))) rfl dX7_writeLife_103 ?_
      refine z_ldcS (pc := 106) (z := 44) (idx := 325) rfl (fun ad s h => ⟨_, h.1.2.2.2.1⟩) dX7_writeLife_106 ?_
      refine z_callV (pc := 109) (kc := kX2_addText) (n := 1) (pl := 37) (ci := 2) (C := RX2) (As := [AR (201 + 44)]) (stk := []) ct_X2_addText (gdV rfl rfl (iw41 _ (List.mem_of_getElem? (i := 12) rfl)) (iw41 _ (List.mem_of_getElem? (i := 13) rfl)) (iw41 _ (List.mem_of_getElem? (i := 14) rfl)) (iw2 _ (List.mem_of_getElem? (i := 16) rfl)) (iw41 _ (List.mem_of_getElem? (i := 15) rfl))) rfl ⟨rfl, rfl⟩ (by decide +kernel) ⟨by decide, by decide⟩ (by decide) rfl rfl dX7_writeLife_109 rfl rfl (Nat.le_of_ble_eq_true rfl) ?_
      refine ⟨_, ((((L ++ numB (nO (hi 2) k)) ++ sgB.getD 41 []) ++ numB (bO (hi 2) k)) ++ sgB.getD 42 []), rfl, ⟨plh18, by omega, by decide⟩, fun h22 eh22 => ?_⟩
      have frh22 : Fr [37, 38] hi h22 := (Fr.call frh18 eh22.1 (by decide))
      have plh22 := eh22.2.1
      have pqh22 := eh22.2.2
      refine z_aload_n (pc := 112) (x := 1) dX7_writeLife_112 rfl 0 rfl ?_
      refine z_getR (pc := 113) (pl := 0) (f := 7) (ci := 6) (C := RX7) (T := TX7) (N := 13) hu_X7 (by decide) rfl rfl (by decide) rfl (List.mem_cons_of_mem _ (iw2 _ (List.mem_of_getElem? (i := 17) rfl))) rfl dX7_writeLife_113 ?_
      refine z_aload_n (pc := 116) (x := 1) dX7_writeLife_116 rfl 0 rfl ?_
      refine z_getR (pc := 117) (pl := 0) (f := 0) (ci := 6) (C := RX7) (T := TX7) (N := 13) hu_X7 (by decide) rfl rfl (by decide) rfl (List.mem_cons_of_mem _ (iw1 _ (List.mem_of_getElem? (i := 16) rfl))) rfl dX7_writeLife_117 ?_
      refine z_iload_n (pc := 120) dX7_writeLife_120 rfl 1 rfl ?_
      refine z_callV (pc := 121) (kc := kX1_worthOf) (n := 1) (pl := 1) (ci := 1) (C := RX1) (As := [AI k]) (stk := [AR 38]) ct_X1_worthOf (gdV rfl rfl (iw12 _ (List.mem_of_getElem? (i := 8) rfl)) (iw12 _ (List.mem_of_getElem? (i := 9) rfl)) (iw12 _ (List.mem_of_getElem? (i := 10) rfl)) (iw1 _ (List.mem_of_getElem? (i := 15) rfl)) (iw12 _ (List.mem_of_getElem? (i := 11) rfl))) rfl ⟨rfl, rfl⟩ (by decide +kernel) ⟨by decide, by decide⟩ (by decide) rfl rfl dX7_writeLife_121 rfl rfl (Nat.le_of_ble_eq_true rfl) ?_
      refine ⟨_, rfl, by omega, fun v23 ev23 => ?_⟩
      try rw [(eh22.1 2 (by decide) : h22 2 = h18 2), (eh18.1 2 (by decide) : h18 2 = h5 2), (eh5.1 2 (by decide) : h5 2 = h3 2), (eh3.1 2 (by decide) : h3 2 = h2 2), (eh2.1 2 (by decide) : h2 2 = hi 2)] at ev23
      refine z_callV (pc := 124) (kc := kX2_addNumber) (n := 1) (pl := 37) (ci := 2) (C := RX2) (As := [AI v23]) (stk := []) ct_X2_addNumber (gdV rfl rfl (iw41 _ (List.mem_of_getElem? (i := 4) rfl)) (iw41 _ (List.mem_of_getElem? (i := 5) rfl)) (iw41 _ (List.mem_of_getElem? (i := 6) rfl)) (iw2 _ (List.mem_of_getElem? (i := 16) rfl)) (iw41 _ (List.mem_of_getElem? (i := 7) rfl))) rfl ⟨rfl, rfl⟩ (by decide +kernel) ⟨by decide, by decide⟩ (by decide) rfl rfl dX7_writeLife_124 rfl rfl (Nat.le_of_ble_eq_true rfl) ?_
      refine ⟨_, (((((L ++ numB (nO (hi 2) k)) ++ sgB.getD 41 []) ++ numB (bO (hi 2) k)) ++ sgB.getD 42 []) ++ sgB.getD 44 []), rfl, ⟨plh22, by omega, by omega⟩, fun h24 eh24 => ?_⟩
      have frh24 : Fr [37, 38] hi h24 := (Fr.call frh22 eh24.1 (by decide))
      rw [show v23 = wO (hi 2) k by omega] at eh24
      have plh24 := eh24.2.1
      have pqh24 := eh24.2.2
      refine z_aload_n (pc := 127) (x := 1) dX7_writeLife_127 rfl 0 rfl ?_
      refine z_getR (pc := 128) (pl := 0) (f := 7) (ci := 6) (C := RX7) (T := TX7) (N := 13) hu_X7 (by decide) rfl rfl (by decide) rfl (List.mem_cons_of_mem _ (iw2 _ (List.mem_of_getElem? (i := 17) rfl))) rfl dX7_writeLife_128 ?_
      refine z_ldcS (pc := 131) (z := 45) (idx := 327) rfl (fun ad s h => ⟨_, h.1.2.2.2.2⟩) dX7_writeLife_131 ?_
      refine z_callV (pc := 134) (kc := kX2_addText) (n := 1) (pl := 37) (ci := 2) (C := RX2) (As := [AR (201 + 45)]) (stk := []) ct_X2_addText (gdV rfl rfl (iw41 _ (List.mem_of_getElem? (i := 12) rfl)) (iw41 _ (List.mem_of_getElem? (i := 13) rfl)) (iw41 _ (List.mem_of_getElem? (i := 14) rfl)) (iw2 _ (List.mem_of_getElem? (i := 16) rfl)) (iw41 _ (List.mem_of_getElem? (i := 15) rfl))) rfl ⟨rfl, rfl⟩ (by decide +kernel) ⟨by decide, by decide⟩ (by decide) rfl rfl dX7_writeLife_134 rfl rfl (Nat.le_of_ble_eq_true rfl) ?_
      refine ⟨_, ((((((L ++ numB (nO (hi 2) k)) ++ sgB.getD 41 []) ++ numB (bO (hi 2) k)) ++ sgB.getD 42 []) ++ sgB.getD 44 []) ++ numB (wO (hi 2) k)), rfl, ⟨plh24, by omega, by decide⟩, fun h25 eh25 => ?_⟩
      have frh25 : Fr [37, 38] hi h25 := (Fr.call frh24 eh25.1 (by decide))
      have plh25 := eh25.2.1
      have pqh25 := eh25.2.2
      refine z_vret (pc := 137) rfl dX7_writeLife_137 ?_
      exact hQ h25 ⟨frh25, ⟨plh25.cast (lifeB_41 (by omega) (by omega)), by omega, by omega⟩⟩

abbrev kX7_report : Kd := (cX7_report, .code yX7_report cX7_report 3 (some .int) :: wsL_law0, rmL 8, RX7, (some .int), 3)
theorem ct_X7_report : Ct kX7_report yX7_report (fun a hi Q => ∃ x : Int, a = [AR 1, AI x] ∧ (RI (hi 2) (hi 2 1) ∧ inR x) ∧ ∀ (v : Int) (h2 : HI), (Fr [37, 38] hi h2 ∧ (v = repV (hi 2) (hi 2 1) x)) → Q (AI v) h2) := by
  refine Ct.of (ws' := _) (by decide +kernel) rfl rfl ?_
  intro a hi Q hT
  obtain ⟨x, rfl, hpre, hQ⟩ := hT
  refine ⟨Nat.le_of_ble_eq_true rfl, ?_⟩
  show Z kX7_report Q 0 [(0, AR 1), (1, AI x)] [] hi
  have n40 := hpre.1.1
  refine z_iload_n (pc := 0) dX7_report_0 rfl 1 rfl ?_
  refine z_iconst (pc := 1) (v := (-1)) dX7_report_1 rfl ?_
  refine z_icmp_ge (pc := 2) (tgt := 7) dX7_report_2 (by decide) ⟨by omega, by omega⟩ ⟨by decide, by decide⟩ (fun c1 => ?_) (fun c1 => ?_)
  · refine z_aload_n (pc := 7) (x := 1) dX7_report_7 rfl 0 rfl ?_
    refine z_getR (pc := 8) (pl := 0) (f := 7) (ci := 6) (C := RX7) (T := TX7) (N := 13) hu_X7 (by decide) rfl rfl (by decide) rfl (List.mem_cons_of_mem _ (iw2 _ (List.mem_of_getElem? (i := 17) rfl))) rfl dX7_report_8 ?_
    refine z_callV (pc := 11) (kc := kX2_clear) (n := 0) (pl := 37) (ci := 2) (C := RX2) (As := []) (stk := []) ct_X2_clear (gdV rfl rfl (iw40 _ (List.mem_of_getElem? (i := 20) rfl)) (iw40 _ (List.mem_of_getElem? (i := 21) rfl)) (iw40 _ (List.mem_of_getElem? (i := 22) rfl)) (iw2 _ (List.mem_of_getElem? (i := 16) rfl)) (iw40 _ (List.mem_of_getElem? (i := 23) rfl))) rfl ⟨rfl, rfl⟩ (by decide +kernel) ⟨by decide, by decide⟩ (by decide) rfl rfl dX7_report_11 rfl rfl (Nat.le_of_ble_eq_true rfl) ?_
    refine ⟨rfl, trivial, fun h2 eh2 => ?_⟩
    have frh2 : Fr [37, 38] hi h2 := (Fr.call (Fr.rf) eh2.1 (by decide))
    have w0 := eh2.2
    refine z_iconst (pc := 14) (v := 0) dX7_report_14 rfl ?_
    refine z_istore_n (pc := 15) (lv' := [(2, AI 0), (0, AR 1), (1, AI x)]) dX7_report_15 rfl (by decide) rfl ?_
    have J16 : ∀ (N : Nat) (k : Int) (hk : HI), (0 ≤ k ∧ k ≤ hi 2 1) → (PL (hk 38) (hk 37 1) (repB (hi 2) k.toNat) ∧ 0 ≤ hk 37 1 ∧ hk 37 1 ≤ 32 * k) → (Fr [37, 38] hi hk) → ((hi 2 1 - k).toNat) < N → Z kX7_report Q 16 [(2, AI k), (0, AR 1), (1, AI x)] [] hk := by
      intro N
      induction N with
      | zero => intro k hk _ _ _ _; exact absurd (by assumption) (Nat.not_lt_zero _)
      | succ N ih16 =>
        intro k hk i0 i1 frlhk hm16
        obtain ⟨pl, b37⟩ := i1
        refine z_iload_n (pc := 16) dX7_report_16 rfl 0 rfl ?_
        refine z_aload_n (pc := 17) (x := 1) dX7_report_17 rfl 1 rfl ?_
        refine z_getR (pc := 18) (pl := 0) (f := 0) (ci := 6) (C := RX7) (T := TX7) (N := 13) hu_X7 (by decide) rfl rfl (by decide) rfl (List.mem_cons_of_mem _ (iw1 _ (List.mem_of_getElem? (i := 16) rfl))) rfl dX7_report_18 ?_
        refine z_callV (pc := 21) (kc := kX1_size) (n := 0) (pl := 1) (ci := 1) (C := RX1) (As := []) (stk := [AI k]) ct_X1_size (gdV rfl rfl (iw7 _ (List.mem_of_getElem? (i := 21) rfl)) (iw7 _ (List.mem_of_getElem? (i := 2) rfl)) (iw7 _ (List.mem_of_getElem? (i := 3) rfl)) (iw1 _ (List.mem_of_getElem? (i := 15) rfl)) (iw7 _ (List.mem_of_getElem? (i := 4) rfl))) rfl ⟨rfl, rfl⟩ (by decide +kernel) ⟨by decide, by decide⟩ (by decide) rfl rfl dX7_report_21 rfl rfl (Nat.le_of_ble_eq_true rfl) ?_
        refine ⟨rfl, trivial, fun v3 ev3 => ?_⟩
        try rw [(frlhk 2 (by decide) : hk 2 = hi 2)] at ev3
        refine z_icmp_ge (pc := 24) (tgt := 38) dX7_report_24 (by decide) ⟨by omega, by omega⟩ ⟨by omega, by omega⟩ (fun c4 => ?_) (fun c4 => ?_)
        · refine z_iload_n (pc := 38) dX7_report_38 rfl 2 rfl ?_
          refine z_iconst (pc := 39) (v := (-1)) dX7_report_39 rfl ?_
          refine z_icmp_ne (pc := 40) (tgt := 51) dX7_report_40 (by decide) ⟨by omega, by omega⟩ ⟨by decide, by decide⟩ (fun c5 => ?_) (fun c5 => ?_)
          · refine z_iload_n (pc := 51) dX7_report_51 rfl 2 rfl ?_
            refine z_aload_n (pc := 52) (x := 1) dX7_report_52 rfl 1 rfl ?_
            refine z_getR (pc := 53) (pl := 0) (f := 7) (ci := 6) (C := RX7) (T := TX7) (N := 13) hu_X7 (by decide) rfl rfl (by decide) rfl (List.mem_cons_of_mem _ (iw2 _ (List.mem_of_getElem? (i := 17) rfl))) rfl dX7_report_53 ?_
            refine z_callV (pc := 56) (kc := kX2_length) (n := 0) (pl := 37) (ci := 2) (C := RX2) (As := []) (stk := [AI x]) ct_X2_length (gdV rfl rfl (iw41 _ (List.mem_of_getElem? (i := 18) rfl)) (iw41 _ (List.mem_of_getElem? (i := 19) rfl)) (iw41 _ (List.mem_of_getElem? (i := 20) rfl)) (iw2 _ (List.mem_of_getElem? (i := 16) rfl)) (iw41 _ (List.mem_of_getElem? (i := 21) rfl))) rfl ⟨rfl, rfl⟩ (by decide +kernel) ⟨by decide, by decide⟩ (by decide) rfl rfl dX7_report_56 rfl rfl (Nat.le_of_ble_eq_true rfl) ?_
            refine ⟨rfl, trivial, fun v6 ev6 => ?_⟩
            refine z_icmp_ge (pc := 59) (tgt := 73) dX7_report_59 (by decide) ⟨by omega, by omega⟩ ⟨by omega, by omega⟩ (fun c7 => ?_) (fun c7 => ?_)
            · refine z_bipush (pc := 73) (v := (-2)) dX7_report_73 (by decide +kernel) ?_
              refine z_iret (pc := 75) rfl dX7_report_75 ?_
              exact hQ (-2) hk ⟨frlhk, by first | exact rep_1 (by omega) | exact rep_4 (by omega) (by rw [show hi 2 1 = k by omega]; have := pl.1; omega) | exact rep_2 (by omega) (by rw [show hi 2 1 = k by omega]; have := pl.1; omega) | exact rep_3 (by omega) (by rw [show hi 2 1 = k by omega]; have := pl.1; omega) (by rw [show hi 2 1 = k by omega, ← pl.get (by omega) (by omega)]; assumption)⟩
            · refine z_aload_n (pc := 62) (x := 1) dX7_report_62 rfl 1 rfl ?_
              refine z_getR (pc := 63) (pl := 0) (f := 7) (ci := 6) (C := RX7) (T := TX7) (N := 13) hu_X7 (by decide) rfl rfl (by decide) rfl (List.mem_cons_of_mem _ (iw2 _ (List.mem_of_getElem? (i := 17) rfl))) rfl dX7_report_63 ?_
              refine z_iload_n (pc := 66) dX7_report_66 rfl 2 rfl ?_
              refine z_callV (pc := 67) (kc := kX2_byteAt) (n := 1) (pl := 37) (ci := 2) (C := RX2) (As := [AI x]) (stk := []) ct_X2_byteAt (gdV rfl rfl (iw41 _ (List.mem_of_getElem? (i := 22) rfl)) (iw41 _ (List.mem_of_getElem? (i := 23) rfl)) (iw42 _ (List.mem_of_getElem? (i := 0) rfl)) (iw2 _ (List.mem_of_getElem? (i := 16) rfl)) (iw42 _ (List.mem_of_getElem? (i := 1) rfl))) rfl ⟨rfl, rfl⟩ (by decide +kernel) ⟨by decide, by decide⟩ (by decide) rfl rfl dX7_report_67 rfl rfl (Nat.le_of_ble_eq_true rfl) ?_
              refine ⟨_, rfl, by omega, fun v8 ev8 => ?_⟩
              refine z_goto (pc := 70) (tgt := 75) dX7_report_70 (by decide) ?_
              refine z_iret (pc := 75) rfl dX7_report_75 ?_
              exact hQ v8 hk ⟨frlhk, by first | exact rep_1 (by omega) | exact rep_4 (by omega) (by rw [show hi 2 1 = k by omega]; have := pl.1; omega) | exact rep_2 (by omega) (by rw [show hi 2 1 = k by omega]; have := pl.1; omega) | exact rep_3 (by omega) (by rw [show hi 2 1 = k by omega]; have := pl.1; omega) (by rw [show hi 2 1 = k by omega, ← pl.get (by omega) (by omega)]; assumption)⟩
          · refine z_aload_n (pc := 43) (x := 1) dX7_report_43 rfl 1 rfl ?_
            refine z_getR (pc := 44) (pl := 0) (f := 7) (ci := 6) (C := RX7) (T := TX7) (N := 13) hu_X7 (by decide) rfl rfl (by decide) rfl (List.mem_cons_of_mem _ (iw2 _ (List.mem_of_getElem? (i := 17) rfl))) rfl dX7_report_44 ?_
            refine z_callV (pc := 47) (kc := kX2_length) (n := 0) (pl := 37) (ci := 2) (C := RX2) (As := []) (stk := []) ct_X2_length (gdV rfl rfl (iw41 _ (List.mem_of_getElem? (i := 18) rfl)) (iw41 _ (List.mem_of_getElem? (i := 19) rfl)) (iw41 _ (List.mem_of_getElem? (i := 20) rfl)) (iw2 _ (List.mem_of_getElem? (i := 16) rfl)) (iw41 _ (List.mem_of_getElem? (i := 21) rfl))) rfl ⟨rfl, rfl⟩ (by decide +kernel) ⟨by decide, by decide⟩ (by decide) rfl rfl dX7_report_47 rfl rfl (Nat.le_of_ble_eq_true rfl) ?_
            refine ⟨rfl, trivial, fun v9 ev9 => ?_⟩
            refine z_iret (pc := 50) rfl dX7_report_50 ?_
            exact hQ v9 hk ⟨frlhk, by first | exact rep_1 (by omega) | exact rep_4 (by omega) (by rw [show hi 2 1 = k by omega]; have := pl.1; omega) | exact rep_2 (by omega) (by rw [show hi 2 1 = k by omega]; have := pl.1; omega) | exact rep_3 (by omega) (by rw [show hi 2 1 = k by omega]; have := pl.1; omega) (by rw [show hi 2 1 = k by omega, ← pl.get (by omega) (by omega)]; assumption)⟩
        · refine z_aload_n (pc := 27) (x := 1) dX7_report_27 rfl 1 rfl ?_
          refine z_iload_n (pc := 28) dX7_report_28 rfl 0 rfl ?_
          refine z_callV (pc := 29) (kc := kX7_writeLife) (n := 1) (pl := 0) (ci := 6) (C := RX7) (As := [AI k]) (stk := []) ct_X7_writeLife (gdV rfl rfl (iw41 _ (List.mem_of_getElem? (i := 0) rfl)) (iw41 _ (List.mem_of_getElem? (i := 1) rfl)) (iw41 _ (List.mem_of_getElem? (i := 2) rfl)) (iw1 _ (List.mem_of_getElem? (i := 2) rfl)) (iw41 _ (List.mem_of_getElem? (i := 3) rfl))) rfl ⟨rfl, rfl⟩ (by decide +kernel) ⟨by decide, by decide⟩ (by decide) rfl rfl dX7_report_29 rfl rfl (Nat.le_of_ble_eq_true rfl) ?_
          refine ⟨_, (repB (hi 2) k.toNat), rfl, ⟨by rw [(by rw [(frlhk 2 (by decide) : hk 2 = hi 2)] : hk 2 = hi 2)]; exact hpre.1, by rw [(by rw [(frlhk 2 (by decide) : hk 2 = hi 2)] : hk 2 = hi 2)]; omega, pl, by omega⟩, fun h10 eh10 => ?_⟩
          have frh10 : Fr [37, 38] hi h10 := (Fr.call frlhk eh10.1 (by decide))
          have plx := eh10.2.1
          have p37 := eh10.2.2
          rw [(by rw [(frlhk 2 (by decide) : hk 2 = hi 2)] : hk 2 = hi 2)] at plx
          refine z_iinc (pc := 32) (j := 0) (w := fun q => (2, AI q) :: [(0, AR 1), (1, AI x)]) dX7_report_32 rfl (by decide) (fun _ => rfl) (fun v11 ev11 => ?_)
          refine z_goto (pc := 35) (tgt := 16) dX7_report_35 (by decide) ?_
          exact ih16 v11 h10 (by omega) (⟨plx.cast (rep_step (by omega) (by omega)), by omega⟩) (frh10) (by omega)
    exact J16 _ 0 h2 (by omega) (⟨PL.nil w0, by omega⟩) (frh2) (Nat.lt_succ_self _)
  · refine z_iconst (pc := 5) (v := (-1)) dX7_report_5 rfl ?_
    refine z_iret (pc := 6) rfl dX7_report_6 ?_
    exact hQ (-1) hi ⟨(Fr.rf), by first | exact rep_1 (by omega) | exact rep_4 (by omega) (by rw [show hi 2 1 = k by omega]; have := pl.1; omega) | exact rep_2 (by omega) (by rw [show hi 2 1 = k by omega]; have := pl.1; omega) | exact rep_3 (by omega) (by rw [show hi 2 1 = k by omega]; have := pl.1; omega) (by rw [show hi 2 1 = k by omega, ← pl.get (by omega) (by omega)]; assumption)⟩

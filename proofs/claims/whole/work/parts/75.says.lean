/-! words of a report in the plain form -/
def wdB (w : Int) : Nat → List Int
  | 0 => []
  | j + 1 => (if w / 32 ^ j % 32 = 0 then [] else [96 + w / 32 ^ j % 32]) ++ wdB w j
def isWd (w : Int) : Prop := w = 215533 ∨ w = 494 ∨ w = 655 ∨ w = 24627848
theorem wd_len : (wdB 215533 7).length = 4 ∧ (wdB 494 7).length = 2 ∧ (wdB 655 7).length = 2 ∧ (wdB 24627848 7).length = 5 := by decide +kernel
theorem s41 : sgB.getD 41 [] = [32] ++ (wdB 215533 7 ++ [32]) := by decide +kernel
theorem s42 : sgB.getD 42 [] = [32] ++ wdB 494 7 := by decide +kernel
theorem s43 : sgB.getD 43 [] = [32] ++ (wdB 655 7 ++ [32]) := by decide +kernel
theorem s44 : sgB.getD 44 [] = [32] ++ (wdB 24627848 7 ++ [32]) := by decide +kernel
theorem s45 : sgB.getD 45 [] = [32] ++ ([59] ++ [32]) := by decide +kernel
theorem wd_all : ∀ w ∈ [(215533 : Int), 494, 655, 24627848], ∀ j : Fin 7, (iL (iL (iL w >>> ((iI (5 * (j.val : Int))).toInt64 &&& 63)).toInt &&& iL 31).toInt).toInt32.toInt = w / 32 ^ j.val % 32 := by decide +kernel
theorem wd_val {w i a b v : Int} (hw : isWd w) (h0 : 0 ≤ i) (h1 : i ≤ 30) (h5 : i % 5 = 0) (e1 : a = (iL w >>> ((iI i).toInt64 &&& 63)).toInt) (e2 : b = (iL a &&& iL 31).toInt) (e3 : v = (iL b).toInt32.toInt) : v = w / 32 ^ (i / 5).toNat % 32 := by
  have m : w ∈ [(215533 : Int), 494, 655, 24627848] := by
    rcases hw with q | q | q | q <;> subst q <;> decide
  have q := wd_all w m ⟨(i / 5).toNat, by omega⟩
  have e : 5 * (((i / 5).toNat : Nat) : Int) = i := by omega
  dsimp only at q
  rw [e] at q
  rw [← q, e3, e2, e1]
theorem wd_step {w i : Int} (h0 : 0 ≤ i) (h5 : i % 5 = 0) : wdB w ((i + 5) / 5).toNat = (if w / 32 ^ (i / 5).toNat % 32 = 0 then [] else [96 + w / 32 ^ (i / 5).toNat % 32]) ++ wdB w (i / 5).toNat := by
  rw [show ((i + 5) / 5).toNat = (i / 5).toNat + 1 by omega]; rfl
theorem wd_y {w i i2 v x : Int} {M : List Int} (hM : M ++ wdB w ((i + 5) / 5).toNat = wdB w 7) (h0 : 0 ≤ i) (h5 : i % 5 = 0) (hv : v = w / 32 ^ (i / 5).toNat % 32) (h1 : v ≠ 0) (hx : x = 96 + v) (h2 : i2 = i - 5) : (M ++ [x]) ++ wdB w ((i2 + 5) / 5).toNat = wdB w 7 := by
  rw [← hM, wd_step h0 h5, if_neg (by omega), hx, hv, List.append_assoc, show ((i2 + 5) / 5) = i / 5 by omega]
theorem wd_n {w i i2 v : Int} {M : List Int} (hM : M ++ wdB w ((i + 5) / 5).toNat = wdB w 7) (h0 : 0 ≤ i) (h5 : i % 5 = 0) (hv : v = w / 32 ^ (i / 5).toNat % 32) (h1 : v = 0) (h2 : i2 = i - 5) : M ++ wdB w ((i2 + 5) / 5).toNat = wdB w 7 := by
  rw [← hM, wd_step h0 h5, if_pos (by omega), List.nil_append, show ((i2 + 5) / 5) = i / 5 by omega]
theorem wd_lt {w i v : Int} {M : List Int} (hM : M ++ wdB w ((i + 5) / 5).toNat = wdB w 7) (h0 : 0 ≤ i) (h5 : i % 5 = 0) (hv : v = w / 32 ^ (i / 5).toNat % 32) (h1 : v ≠ 0) : M.length + 1 ≤ (wdB w 7).length := by
  rw [← hM, wd_step h0 h5, if_neg (by omega)]; simp only [List.length_append, List.length_cons, List.length_nil]; omega
theorem wd_end {w i : Int} {M : List Int} (hM : M ++ wdB w ((i + 5) / 5).toNat = wdB w 7) (h0 : i < 0) : M = wdB w 7 := by
  rw [show ((i + 5) / 5).toNat = 0 by omega] at hM
  rw [← hM]; exact (List.append_nil M).symm
section LBM
variable {f : Nat → Int} {k : Int} {L : List Int}
theorem lifeM_40 (hd : dO f k = 64) (hw : wO f k = 0) : L ++ (numB (nO f k) ++ [32]) ++ (wdB 215533 7 ++ [32]) ++ (numB (bO f k) ++ [32]) ++ (wdB 494 7 ++ [32]) ++ [59] ++ [32] = L ++ lifeB f k := by
  unfold lifeB; rw [if_pos hd, if_pos hw, s41, s42, s45]; simp only [List.append_assoc, List.append_nil, List.nil_append]
theorem lifeM_41 (hd : dO f k = 64) (hw : ¬ wO f k = 0) : L ++ (numB (nO f k) ++ [32]) ++ (wdB 215533 7 ++ [32]) ++ (numB (bO f k) ++ [32]) ++ (wdB 494 7 ++ [32]) ++ (wdB 24627848 7 ++ [32]) ++ (numB (wO f k) ++ [32]) ++ [59] ++ [32] = L ++ lifeB f k := by
  unfold lifeB; rw [if_pos hd, if_neg hw, s41, s42, s44, s45]; simp only [List.append_assoc]
theorem lifeM_30 (hd : ¬ dO f k = 64) (hw : wO f k = 0) : L ++ (numB (nO f k) ++ [32]) ++ (wdB 215533 7 ++ [32]) ++ (numB (bO f k) ++ [32]) ++ (wdB 655 7 ++ [32]) ++ (numB (dO f k) ++ [32]) ++ [59] ++ [32] = L ++ lifeB f k := by
  unfold lifeB; rw [if_neg hd, if_pos hw, s41, s43, s45]; simp only [List.append_assoc, List.append_nil, List.nil_append]
theorem lifeM_31 (hd : ¬ dO f k = 64) (hw : ¬ wO f k = 0) : L ++ (numB (nO f k) ++ [32]) ++ (wdB 215533 7 ++ [32]) ++ (numB (bO f k) ++ [32]) ++ (wdB 655 7 ++ [32]) ++ (numB (dO f k) ++ [32]) ++ (wdB 24627848 7 ++ [32]) ++ (numB (wO f k) ++ [32]) ++ [59] ++ [32] = L ++ lifeB f k := by
  unfold lifeB; rw [if_neg hd, if_neg hw, s41, s43, s44, s45]; simp only [List.append_assoc]
end LBM
theorem app3m {L : List Int} {a b c d : Int} : L ++ [a] ++ [b] ++ [c] ++ [d] = L ++ ([a] ++ [b] ++ [c] ++ [d]) := by simp only [List.append_assoc]
theorem app2m {L : List Int} {a b d : Int} : L ++ [a] ++ [b] ++ [d] = L ++ ([a] ++ [b] ++ [d]) := by simp only [List.append_assoc]
theorem app1m {L : List Int} {a d : Int} : L ++ [a] ++ [d] = L ++ ([a] ++ [d]) := by simp only [List.append_assoc]

abbrev kX8_says : Kd := (cX8_says, .code yX8_says cX8_says 2 none :: wsL_law0, rmL 1, RX8, none, 2)
theorem ct_X8_says : Ct kX8_says yX8_says (fun a hi Q => ∃ x : Int, ∃ L : List Int, a = [AR 40, AI x] ∧ (PL (hi 53) (hi 39 32) L ∧ (0 ≤ hi 39 32 ∧ hi 39 32 + 1 ≤ 1300) ∧ inR x) ∧ ∀ h2 : HI, (Fr [39, 53] hi h2 ∧ FF 39 [32] hi h2 ∧ (PL (h2 53) (h2 39 32) (L ++ [x]) ∧ h2 39 32 = hi 39 32 + 1)) → Q AU h2) := by
  refine Ct.of (ws' := _) (by decide +kernel) rfl rfl ?_
  intro a hi Q hT
  obtain ⟨x, L, rfl, hpre, hQ⟩ := hT
  refine ⟨Nat.le_of_ble_eq_true rfl, ?_⟩
  show Z kX8_says Q 0 [(0, AR 40), (1, AI x)] [] hi
  obtain ⟨pl, b37, hq⟩ := hpre
  refine z_aload_n (pc := 0) (x := 40) dX8_says_0 rfl 0 rfl ?_
  refine z_getR (pc := 1) (pl := 39) (f := 31) (ci := 7) (C := RX8) (T := TX8) (N := 33) hu_X8 (by decide) rfl rfl (by decide) rfl (List.mem_cons_of_mem _ (iw5 _ (List.mem_of_getElem? (i := 19) rfl))) rfl dX8_says_1 ?_
  refine z_aload_n (pc := 4) (x := 40) dX8_says_4 rfl 0 rfl ?_
  refine z_getI (pc := 5) (pl := 39) (f := 32) (ci := 7) (C := RX8) (T := TX8) (N := 33) hu_X8 (by decide) rfl rfl (by decide) rfl (List.mem_cons_of_mem _ (iw42 _ (List.mem_of_getElem? (i := 6) rfl))) rfl (by decide) dX8_says_5 (fun v1 ev1 rv1 => ?_)
  refine z_iload_n (pc := 8) dX8_says_8 rfl 1 rfl ?_
  refine z_iast (pc := 9) (pl := 53) (by decide) rfl (by decide) (by omega) (by omega) ⟨by omega, by omega⟩ dX8_says_9 (fun h2 eh2 => ?_)
  have frh2 : Fr [39, 53] hi h2 := (Fr.put (Fr.rf) eh2 (by decide))
  have ff39h2 : FF 39 [32] hi h2 := FF.oth (FF.rf) eh2 (by decide)
  have u26 : h2 53 = updI (hi 53) (hi 39 32).toNat x := by rw [eh2, hput_same]; exact updI_c (by omega) rfl
  refine z_aload_n (pc := 10) (x := 40) dX8_says_10 rfl 0 rfl ?_
  refine z_dup (pc := 11) dX8_says_11 rfl ?_
  refine z_getI (pc := 12) (pl := 39) (f := 32) (ci := 7) (C := RX8) (T := TX8) (N := 33) hu_X8 (by decide) rfl rfl (by decide) rfl (List.mem_cons_of_mem _ (iw42 _ (List.mem_of_getElem? (i := 6) rfl))) rfl (by decide) dX8_says_12 (fun v3 ev3 rv3 => ?_)
  rw [(by rw [eh2]; rfl : h2 39 32 = hi 39 32)] at ev3
  refine z_iconst (pc := 15) (v := 1) dX8_says_15 rfl ?_
  refine z_iadd (pc := 16) dX8_says_16 (fun v4 ev4 => ?_)
  refine z_putI (pc := 17) (pl := 39) (f := 32) (ci := 7) (C := RX8) (T := TX8) (N := 33) hu_X8 tyX8_ok nmX8 (by decide) rfl rfl (by decide) rfl (List.mem_cons_of_mem _ (iw42 _ (List.mem_of_getElem? (i := 6) rfl))) rfl rfl (ty := .int) (by decide +kernel) rfl rfl ⟨by omega, by omega⟩ dX8_says_17 (fun h5 eh5 => ?_)
  have frh5 : Fr [39, 53] hi h5 := (Fr.put frh2 eh5 (by decide))
  have ff39h5 : FF 39 [32] hi h5 := FF.put ff39h2 eh5 (by decide)
  refine z_vret (pc := 20) rfl dX8_says_20 ?_
  exact hQ h5 ⟨frh5, ff39h5, ⟨pl.add (by rw [(by rw [(by rw [eh5]; rfl : h5 53 = h2 53)] : h5 53 = h2 53)]; exact u26) (by rw [(by rw [(by rw [eh5]; rfl : h5 39 32 = v4)] : h5 39 32 = v4)]; omega), by rw [(by rw [(by rw [eh5]; rfl : h5 39 32 = v4)] : h5 39 32 = v4)]; omega⟩⟩

abbrev kX8_saysNumber : Kd := (cX8_saysNumber, .code yX8_saysNumber cX8_saysNumber 2 none :: wsL_law0, rmL 2, RX8, none, 2)
theorem ct_X8_saysNumber : Ct kX8_saysNumber yX8_saysNumber (fun a hi Q => ∃ x : Int, ∃ L : List Int, a = [AR 40, AI x] ∧ (PL (hi 53) (hi 39 32) L ∧ (0 ≤ hi 39 32 ∧ hi 39 32 + 4 ≤ 1300) ∧ 0 ≤ x ∧ x ≤ 999) ∧ ∀ h2 : HI, (Fr [39, 53] hi h2 ∧ FF 39 [32] hi h2 ∧ (PL (h2 53) (h2 39 32) (L ++ (numB x ++ [32])) ∧ hi 39 32 + 2 ≤ h2 39 32 ∧ h2 39 32 ≤ hi 39 32 + 4)) → Q AU h2) := by
  refine Ct.of (ws' := _) (by decide +kernel) rfl rfl ?_
  intro a hi Q hT
  obtain ⟨x, L, rfl, hpre, hQ⟩ := hT
  refine ⟨Nat.le_of_ble_eq_true rfl, ?_⟩
  show Z kX8_saysNumber Q 0 [(0, AR 40), (1, AI x)] [] hi
  obtain ⟨pl, b37, hq⟩ := hpre
  refine z_iload_n (pc := 0) dX8_saysNumber_0 rfl 1 rfl ?_
  refine z_bipush (pc := 1) (v := 99) dX8_saysNumber_1 (by decide +kernel) ?_
  refine z_icmp_le (pc := 3) (tgt := 17) dX8_saysNumber_3 (by decide) ⟨by omega, by omega⟩ ⟨by decide, by decide⟩ (fun c1 => ?_) (fun c1 => ?_)
  · refine z_iload_n (pc := 17) dX8_saysNumber_17 rfl 1 rfl ?_
    refine z_bipush (pc := 18) (v := 9) dX8_saysNumber_18 (by decide +kernel) ?_
    refine z_icmp_le (pc := 20) (tgt := 37) dX8_saysNumber_20 (by decide) ⟨by omega, by omega⟩ ⟨by decide, by decide⟩ (fun c2 => ?_) (fun c2 => ?_)
    · refine z_aload_n (pc := 37) (x := 40) dX8_saysNumber_37 rfl 0 rfl ?_
      refine z_bipush (pc := 38) (v := 48) dX8_saysNumber_38 (by decide +kernel) ?_
      refine z_iload_n (pc := 40) dX8_saysNumber_40 rfl 1 rfl ?_
      refine z_bipush (pc := 41) (v := 10) dX8_saysNumber_41 (by decide +kernel) ?_
      refine z_irem (pc := 43) dX8_saysNumber_43 ⟨by omega, by omega⟩ ⟨by decide, by decide⟩ (by omega) (fun v3 ev3 => ?_)
      refine z_iadd (pc := 44) dX8_saysNumber_44 (fun v4 ev4 => ?_)
      refine z_callV (pc := 45) (kc := kX8_says) (n := 1) (pl := 39) (ci := 7) (C := RX8) (As := [AI v4]) (stk := []) ct_X8_says (gdV rfl rfl (iw42 _ (List.mem_of_getElem? (i := 12) rfl)) (iw42 _ (List.mem_of_getElem? (i := 13) rfl)) (iw42 _ (List.mem_of_getElem? (i := 14) rfl)) (iw1 _ (List.mem_of_getElem? (i := 5) rfl)) (iw42 _ (List.mem_of_getElem? (i := 15) rfl))) rfl ⟨rfl, rfl⟩ (by decide +kernel) ⟨by decide, by decide⟩ (by decide) rfl rfl dX8_saysNumber_45 rfl rfl (Nat.le_of_ble_eq_true rfl) ?_
      refine ⟨_, L, rfl, ⟨pl, by omega, ⟨by omega, by omega⟩⟩, fun h5 eh5 => ?_⟩
      have frh5 : Fr [39, 53] hi h5 := (Fr.call (Fr.rf) eh5.1 (by decide))
      have ff39h5 : FF 39 [32] hi h5 := FF.call (FF.rf) (eh5.2.1) (by decide)
      have plh5 := eh5.2.2.1
      have pqh5 := eh5.2.2.2
      refine z_aload_n (pc := 48) (x := 40) dX8_saysNumber_48 rfl 0 rfl ?_
      refine z_bipush (pc := 49) (v := 32) dX8_saysNumber_49 (by decide +kernel) ?_
      refine z_callV (pc := 51) (kc := kX8_says) (n := 1) (pl := 39) (ci := 7) (C := RX8) (As := [AI 32]) (stk := []) ct_X8_says (gdV rfl rfl (iw42 _ (List.mem_of_getElem? (i := 12) rfl)) (iw42 _ (List.mem_of_getElem? (i := 13) rfl)) (iw42 _ (List.mem_of_getElem? (i := 14) rfl)) (iw1 _ (List.mem_of_getElem? (i := 5) rfl)) (iw42 _ (List.mem_of_getElem? (i := 15) rfl))) rfl ⟨rfl, rfl⟩ (by decide +kernel) ⟨by decide, by decide⟩ (by decide) rfl rfl dX8_saysNumber_51 rfl rfl (Nat.le_of_ble_eq_true rfl) ?_
      refine ⟨_, (L ++ [v4]), rfl, ⟨plh5, by omega, ⟨by decide, by decide⟩⟩, fun h6 eh6 => ?_⟩
      have frh6 : Fr [39, 53] hi h6 := (Fr.call frh5 eh6.1 (by decide))
      have ff39h6 : FF 39 [32] hi h6 := FF.call ff39h5 (eh6.2.1) (by decide)
      have plh6 := eh6.2.2.1
      have pqh6 := eh6.2.2.2
      refine z_vret (pc := 54) rfl dX8_saysNumber_54 ?_
      exact hQ h6 ⟨frh6, ff39h6, by first | (exfalso; omega) | exact ⟨plh6.cast (by rw [num_1 (by omega), ← app1m, show v4 = 48 + x % 10 by omega]), by omega, by omega⟩⟩
    · refine z_aload_n (pc := 23) (x := 40) dX8_saysNumber_23 rfl 0 rfl ?_
      refine z_bipush (pc := 24) (v := 48) dX8_saysNumber_24 (by decide +kernel) ?_
      refine z_iload_n (pc := 26) dX8_saysNumber_26 rfl 1 rfl ?_
      refine z_bipush (pc := 27) (v := 10) dX8_saysNumber_27 (by decide +kernel) ?_
      refine z_idiv (pc := 29) dX8_saysNumber_29 ⟨by omega, by omega⟩ ⟨by decide, by decide⟩ (by omega) (fun v7 ev7 => ?_)
      refine z_bipush (pc := 30) (v := 10) dX8_saysNumber_30 (by decide +kernel) ?_
      refine z_irem (pc := 32) dX8_saysNumber_32 ⟨by omega, by omega⟩ ⟨by decide, by decide⟩ (by omega) (fun v8 ev8 => ?_)
      refine z_iadd (pc := 33) dX8_saysNumber_33 (fun v9 ev9 => ?_)
      refine z_callV (pc := 34) (kc := kX8_says) (n := 1) (pl := 39) (ci := 7) (C := RX8) (As := [AI v9]) (stk := []) ct_X8_says (gdV rfl rfl (iw42 _ (List.mem_of_getElem? (i := 12) rfl)) (iw42 _ (List.mem_of_getElem? (i := 13) rfl)) (iw42 _ (List.mem_of_getElem? (i := 14) rfl)) (iw1 _ (List.mem_of_getElem? (i := 5) rfl)) (iw42 _ (List.mem_of_getElem? (i := 15) rfl))) rfl ⟨rfl, rfl⟩ (by decide +kernel) ⟨by decide, by decide⟩ (by decide) rfl rfl dX8_saysNumber_34 rfl rfl (Nat.le_of_ble_eq_true rfl) ?_
      refine ⟨_, L, rfl, ⟨pl, by omega, ⟨by omega, by omega⟩⟩, fun h10 eh10 => ?_⟩
      have frh10 : Fr [39, 53] hi h10 := (Fr.call (Fr.rf) eh10.1 (by decide))
      have ff39h10 : FF 39 [32] hi h10 := FF.call (FF.rf) (eh10.2.1) (by decide)
      have plh10 := eh10.2.2.1
      have pqh10 := eh10.2.2.2
      refine z_aload_n (pc := 37) (x := 40) dX8_saysNumber_37 rfl 0 rfl ?_
      refine z_bipush (pc := 38) (v := 48) dX8_saysNumber_38 (by decide +kernel) ?_
      refine z_iload_n (pc := 40) dX8_saysNumber_40 rfl 1 rfl ?_
      refine z_bipush (pc := 41) (v := 10) dX8_saysNumber_41 (by decide +kernel) ?_
      refine z_irem (pc := 43) dX8_saysNumber_43 ⟨by omega, by omega⟩ ⟨by decide, by decide⟩ (by omega) (fun v11 ev11 => ?_)
      refine z_iadd (pc := 44) dX8_saysNumber_44 (fun v12 ev12 => ?_)
      refine z_callV (pc := 45) (kc := kX8_says) (n := 1) (pl := 39) (ci := 7) (C := RX8) (As := [AI v12]) (stk := []) ct_X8_says (gdV rfl rfl (iw42 _ (List.mem_of_getElem? (i := 12) rfl)) (iw42 _ (List.mem_of_getElem? (i := 13) rfl)) (iw42 _ (List.mem_of_getElem? (i := 14) rfl)) (iw1 _ (List.mem_of_getElem? (i := 5) rfl)) (iw42 _ (List.mem_of_getElem? (i := 15) rfl))) rfl ⟨rfl, rfl⟩ (by decide +kernel) ⟨by decide, by decide⟩ (by decide) rfl rfl dX8_saysNumber_45 rfl rfl (Nat.le_of_ble_eq_true rfl) ?_
      refine ⟨_, (L ++ [v9]), rfl, ⟨plh10, by omega, ⟨by omega, by omega⟩⟩, fun h13 eh13 => ?_⟩
      have frh13 : Fr [39, 53] hi h13 := (Fr.call frh10 eh13.1 (by decide))
      have ff39h13 : FF 39 [32] hi h13 := FF.call ff39h10 (eh13.2.1) (by decide)
      have plh13 := eh13.2.2.1
      have pqh13 := eh13.2.2.2
      refine z_aload_n (pc := 48) (x := 40) dX8_saysNumber_48 rfl 0 rfl ?_
      refine z_bipush (pc := 49) (v := 32) dX8_saysNumber_49 (by decide +kernel) ?_
      refine z_callV (pc := 51) (kc := kX8_says) (n := 1) (pl := 39) (ci := 7) (C := RX8) (As := [AI 32]) (stk := []) ct_X8_says (gdV rfl rfl (iw42 _ (List.mem_of_getElem? (i := 12) rfl)) (iw42 _ (List.mem_of_getElem? (i := 13) rfl)) (iw42 _ (List.mem_of_getElem? (i := 14) rfl)) (iw1 _ (List.mem_of_getElem? (i := 5) rfl)) (iw42 _ (List.mem_of_getElem? (i := 15) rfl))) rfl ⟨rfl, rfl⟩ (by decide +kernel) ⟨by decide, by decide⟩ (by decide) rfl rfl dX8_saysNumber_51 rfl rfl (Nat.le_of_ble_eq_true rfl) ?_
      refine ⟨_, ((L ++ [v9]) ++ [v12]), rfl, ⟨plh13, by omega, ⟨by decide, by decide⟩⟩, fun h14 eh14 => ?_⟩
      have frh14 : Fr [39, 53] hi h14 := (Fr.call frh13 eh14.1 (by decide))
      have ff39h14 : FF 39 [32] hi h14 := FF.call ff39h13 (eh14.2.1) (by decide)
      have plh14 := eh14.2.2.1
      have pqh14 := eh14.2.2.2
      refine z_vret (pc := 54) rfl dX8_saysNumber_54 ?_
      exact hQ h14 ⟨frh14, ff39h14, by first | (exfalso; omega) | exact ⟨plh14.cast (by rw [num_2 (by omega) (by omega), ← app2m, show v9 = 48 + x / 10 % 10 by omega, show v12 = 48 + x % 10 by omega]), by omega, by omega⟩⟩
  · refine z_aload_n (pc := 6) (x := 40) dX8_saysNumber_6 rfl 0 rfl ?_
    refine z_bipush (pc := 7) (v := 48) dX8_saysNumber_7 (by decide +kernel) ?_
    refine z_iload_n (pc := 9) dX8_saysNumber_9 rfl 1 rfl ?_
    refine z_bipush (pc := 10) (v := 100) dX8_saysNumber_10 (by decide +kernel) ?_
    refine z_idiv (pc := 12) dX8_saysNumber_12 ⟨by omega, by omega⟩ ⟨by decide, by decide⟩ (by omega) (fun v15 ev15 => ?_)
    refine z_iadd (pc := 13) dX8_saysNumber_13 (fun v16 ev16 => ?_)
    refine z_callV (pc := 14) (kc := kX8_says) (n := 1) (pl := 39) (ci := 7) (C := RX8) (As := [AI v16]) (stk := []) ct_X8_says (gdV rfl rfl (iw42 _ (List.mem_of_getElem? (i := 12) rfl)) (iw42 _ (List.mem_of_getElem? (i := 13) rfl)) (iw42 _ (List.mem_of_getElem? (i := 14) rfl)) (iw1 _ (List.mem_of_getElem? (i := 5) rfl)) (iw42 _ (List.mem_of_getElem? (i := 15) rfl))) rfl ⟨rfl, rfl⟩ (by decide +kernel) ⟨by decide, by decide⟩ (by decide) rfl rfl dX8_saysNumber_14 rfl rfl (Nat.le_of_ble_eq_true rfl) ?_
    refine ⟨_, L, rfl, ⟨pl, by omega, ⟨by omega, by omega⟩⟩, fun h17 eh17 => ?_⟩
    have frh17 : Fr [39, 53] hi h17 := (Fr.call (Fr.rf) eh17.1 (by decide))
    have ff39h17 : FF 39 [32] hi h17 := FF.call (FF.rf) (eh17.2.1) (by decide)
    have plh17 := eh17.2.2.1
    have pqh17 := eh17.2.2.2
    refine z_iload_n (pc := 17) dX8_saysNumber_17 rfl 1 rfl ?_
    refine z_bipush (pc := 18) (v := 9) dX8_saysNumber_18 (by decide +kernel) ?_
    refine z_icmp_le (pc := 20) (tgt := 37) dX8_saysNumber_20 (by decide) ⟨by omega, by omega⟩ ⟨by decide, by decide⟩ (fun c18 => ?_) (fun c18 => ?_)
    · refine z_aload_n (pc := 37) (x := 40) dX8_saysNumber_37 rfl 0 rfl ?_
      refine z_bipush (pc := 38) (v := 48) dX8_saysNumber_38 (by decide +kernel) ?_
      refine z_iload_n (pc := 40) dX8_saysNumber_40 rfl 1 rfl ?_
      refine z_bipush (pc := 41) (v := 10) dX8_saysNumber_41 (by decide +kernel) ?_
      refine z_irem (pc := 43) dX8_saysNumber_43 ⟨by omega, by omega⟩ ⟨by decide, by decide⟩ (by omega) (fun v19 ev19 => ?_)
      refine z_iadd (pc := 44) dX8_saysNumber_44 (fun v20 ev20 => ?_)
      refine z_callV (pc := 45) (kc := kX8_says) (n := 1) (pl := 39) (ci := 7) (C := RX8) (As := [AI v20]) (stk := []) ct_X8_says (gdV rfl rfl (iw42 _ (List.mem_of_getElem? (i := 12) rfl)) (iw42 _ (List.mem_of_getElem? (i := 13) rfl)) (iw42 _ (List.mem_of_getElem? (i := 14) rfl)) (iw1 _ (List.mem_of_getElem? (i := 5) rfl)) (iw42 _ (List.mem_of_getElem? (i := 15) rfl))) rfl ⟨rfl, rfl⟩ (by decide +kernel) ⟨by decide, by decide⟩ (by decide) rfl rfl dX8_saysNumber_45 rfl rfl (Nat.le_of_ble_eq_true rfl) ?_
      refine ⟨_, (L ++ [v16]), rfl, ⟨plh17, by omega, ⟨by omega, by omega⟩⟩, fun h21 eh21 => ?_⟩
      have frh21 : Fr [39, 53] hi h21 := (Fr.call frh17 eh21.1 (by decide))
      have ff39h21 : FF 39 [32] hi h21 := FF.call ff39h17 (eh21.2.1) (by decide)
      have plh21 := eh21.2.2.1
      have pqh21 := eh21.2.2.2
      refine z_aload_n (pc := 48) (x := 40) dX8_saysNumber_48 rfl 0 rfl ?_
      refine z_bipush (pc := 49) (v := 32) dX8_saysNumber_49 (by decide +kernel) ?_
      refine z_callV (pc := 51) (kc := kX8_says) (n := 1) (pl := 39) (ci := 7) (C := RX8) (As := [AI 32]) (stk := []) ct_X8_says (gdV rfl rfl (iw42 _ (List.mem_of_getElem? (i := 12) rfl)) (iw42 _ (List.mem_of_getElem? (i := 13) rfl)) (iw42 _ (List.mem_of_getElem? (i := 14) rfl)) (iw1 _ (List.mem_of_getElem? (i := 5) rfl)) (iw42 _ (List.mem_of_getElem? (i := 15) rfl))) rfl ⟨rfl, rfl⟩ (by decide +kernel) ⟨by decide, by decide⟩ (by decide) rfl rfl dX8_saysNumber_51 rfl rfl (Nat.le_of_ble_eq_true rfl) ?_
      refine ⟨_, ((L ++ [v16]) ++ [v20]), rfl, ⟨plh21, by omega, ⟨by decide, by decide⟩⟩, fun h22 eh22 => ?_⟩
      have frh22 : Fr [39, 53] hi h22 := (Fr.call frh21 eh22.1 (by decide))
      have ff39h22 : FF 39 [32] hi h22 := FF.call ff39h21 (eh22.2.1) (by decide)
      have plh22 := eh22.2.2.1
      have pqh22 := eh22.2.2.2
      refine z_vret (pc := 54) rfl dX8_saysNumber_54 ?_
      exact hQ h22 ⟨frh22, ff39h22, by first | (exfalso; omega) | exact ⟨plh22.cast (by rw [num_2 (by omega) (by omega), ← app2m, show v16 = 48 + x / 10 % 10 by omega, show v20 = 48 + x % 10 by omega]), by omega, by omega⟩⟩
    · refine z_aload_n (pc := 23) (x := 40) dX8_saysNumber_23 rfl 0 rfl ?_
      refine z_bipush (pc := 24) (v := 48) dX8_saysNumber_24 (by decide +kernel) ?_
      refine z_iload_n (pc := 26) dX8_saysNumber_26 rfl 1 rfl ?_
      refine z_bipush (pc := 27) (v := 10) dX8_saysNumber_27 (by decide +kernel) ?_
      refine z_idiv (pc := 29) dX8_saysNumber_29 ⟨by omega, by omega⟩ ⟨by decide, by decide⟩ (by omega) (fun v23 ev23 => ?_)
      refine z_bipush (pc := 30) (v := 10) dX8_saysNumber_30 (by decide +kernel) ?_
      refine z_irem (pc := 32) dX8_saysNumber_32 ⟨by omega, by omega⟩ ⟨by decide, by decide⟩ (by omega) (fun v24 ev24 => ?_)
      refine z_iadd (pc := 33) dX8_saysNumber_33 (fun v25 ev25 => ?_)
      refine z_callV (pc := 34) (kc := kX8_says) (n := 1) (pl := 39) (ci := 7) (C := RX8) (As := [AI v25]) (stk := []) ct_X8_says (gdV rfl rfl (iw42 _ (List.mem_of_getElem? (i := 12) rfl)) (iw42 _ (List.mem_of_getElem? (i := 13) rfl)) (iw42 _ (List.mem_of_getElem? (i := 14) rfl)) (iw1 _ (List.mem_of_getElem? (i := 5) rfl)) (iw42 _ (List.mem_of_getElem? (i := 15) rfl))) rfl ⟨rfl, rfl⟩ (by decide +kernel) ⟨by decide, by decide⟩ (by decide) rfl rfl dX8_saysNumber_34 rfl rfl (Nat.le_of_ble_eq_true rfl) ?_
      refine ⟨_, (L ++ [v16]), rfl, ⟨plh17, by omega, ⟨by omega, by omega⟩⟩, fun h26 eh26 => ?_⟩
      have frh26 : Fr [39, 53] hi h26 := (Fr.call frh17 eh26.1 (by decide))
      have ff39h26 : FF 39 [32] hi h26 := FF.call ff39h17 (eh26.2.1) (by decide)
      have plh26 := eh26.2.2.1
      have pqh26 := eh26.2.2.2
      refine z_aload_n (pc := 37) (x := 40) dX8_saysNumber_37 rfl 0 rfl ?_
      refine z_bipush (pc := 38) (v := 48) dX8_saysNumber_38 (by decide +kernel) ?_
      refine z_iload_n (pc := 40) dX8_saysNumber_40 rfl 1 rfl ?_
      refine z_bipush (pc := 41) (v := 10) dX8_saysNumber_41 (by decide +kernel) ?_
      refine z_irem (pc := 43) dX8_saysNumber_43 ⟨by omega, by omega⟩ ⟨by decide, by decide⟩ (by omega) (fun v27 ev27 => ?_)
      refine z_iadd (pc := 44) dX8_saysNumber_44 (fun v28 ev28 => ?_)
      refine z_callV (pc := 45) (kc := kX8_says) (n := 1) (pl := 39) (ci := 7) (C := RX8) (As := [AI v28]) (stk := []) ct_X8_says (gdV rfl rfl (iw42 _ (List.mem_of_getElem? (i := 12) rfl)) (iw42 _ (List.mem_of_getElem? (i := 13) rfl)) (iw42 _ (List.mem_of_getElem? (i := 14) rfl)) (iw1 _ (List.mem_of_getElem? (i := 5) rfl)) (iw42 _ (List.mem_of_getElem? (i := 15) rfl))) rfl ⟨rfl, rfl⟩ (by decide +kernel) ⟨by decide, by decide⟩ (by decide) rfl rfl dX8_saysNumber_45 rfl rfl (Nat.le_of_ble_eq_true rfl) ?_
      refine ⟨_, ((L ++ [v16]) ++ [v25]), rfl, ⟨plh26, by omega, ⟨by omega, by omega⟩⟩, fun h29 eh29 => ?_⟩
      have frh29 : Fr [39, 53] hi h29 := (Fr.call frh26 eh29.1 (by decide))
      have ff39h29 : FF 39 [32] hi h29 := FF.call ff39h26 (eh29.2.1) (by decide)
      have plh29 := eh29.2.2.1
      have pqh29 := eh29.2.2.2
      refine z_aload_n (pc := 48) (x := 40) dX8_saysNumber_48 rfl 0 rfl ?_
      refine z_bipush (pc := 49) (v := 32) dX8_saysNumber_49 (by decide +kernel) ?_
      refine z_callV (pc := 51) (kc := kX8_says) (n := 1) (pl := 39) (ci := 7) (C := RX8) (As := [AI 32]) (stk := []) ct_X8_says (gdV rfl rfl (iw42 _ (List.mem_of_getElem? (i := 12) rfl)) (iw42 _ (List.mem_of_getElem? (i := 13) rfl)) (iw42 _ (List.mem_of_getElem? (i := 14) rfl)) (iw1 _ (List.mem_of_getElem? (i := 5) rfl)) (iw42 _ (List.mem_of_getElem? (i := 15) rfl))) rfl ⟨rfl, rfl⟩ (by decide +kernel) ⟨by decide, by decide⟩ (by decide) rfl rfl dX8_saysNumber_51 rfl rfl (Nat.le_of_ble_eq_true rfl) ?_
      refine ⟨_, (((L ++ [v16]) ++ [v25]) ++ [v28]), rfl, ⟨plh29, by omega, ⟨by decide, by decide⟩⟩, fun h30 eh30 => ?_⟩
      have frh30 : Fr [39, 53] hi h30 := (Fr.call frh29 eh30.1 (by decide))
      have ff39h30 : FF 39 [32] hi h30 := FF.call ff39h29 (eh30.2.1) (by decide)
      have plh30 := eh30.2.2.1
      have pqh30 := eh30.2.2.2
      refine z_vret (pc := 54) rfl dX8_saysNumber_54 ?_
      exact hQ h30 ⟨frh30, ff39h30, by first | (exfalso; omega) | exact ⟨plh30.cast (by rw [num_3 (by omega), ← app3m, show v16 = 48 + x / 100 by omega, show v25 = 48 + x / 10 % 10 by omega, show v28 = 48 + x % 10 by omega]), by omega, by omega⟩⟩

abbrev kX8_saysWord : Kd := (cX8_saysWord, .code yX8_saysWord cX8_saysWord 5 none :: wsL_law0, rmL 2, RX8, none, 5)
theorem ct_X8_saysWord : Ct kX8_saysWord yX8_saysWord (fun a hi Q => ∃ w : Int, ∃ L : List Int, a = [AR 40, AL w] ∧ (PL (hi 53) (hi 39 32) L ∧ (0 ≤ hi 39 32 ∧ hi 39 32 + ((wdB w 7).length : Nat) + 1 ≤ 1300) ∧ isWd w) ∧ ∀ h2 : HI, (Fr [39, 53] hi h2 ∧ FF 39 [32] hi h2 ∧ (PL (h2 53) (h2 39 32) (L ++ (wdB w 7 ++ [32])) ∧ h2 39 32 = hi 39 32 + ((wdB w 7).length : Nat) + 1)) → Q AU h2) := by
  refine Ct.of (ws' := _) (by decide +kernel) rfl rfl ?_
  intro a hi Q hT
  obtain ⟨w, L, rfl, hpre, hQ⟩ := hT
  refine ⟨Nat.le_of_ble_eq_true rfl, ?_⟩
  show Z kX8_saysWord Q 0 [(0, AR 40), (1, AL w)] [] hi
  obtain ⟨pl, b37, hq⟩ := hpre
  refine z_bipush (pc := 0) (v := 30) dX8_saysWord_0 (by decide +kernel) ?_
  refine z_istore_n (pc := 2) (lv' := [(3, AI 30), (0, AR 40), (1, AL w)]) dX8_saysWord_2 rfl (by decide) rfl ?_
  have J3 : ∀ (N : Nat) (i : Int) (hk : HI), (-5 ≤ i ∧ i ≤ 30 ∧ i % 5 = 0) → (∃ M : List Int, PL (hk 53) (hk 39 32) (L ++ M) ∧ M ++ wdB w ((i + 5) / 5).toNat = wdB w 7 ∧ hk 39 32 = hi 39 32 + (M.length : Nat) ∧ M.length ≤ (wdB w 7).length) → (Fr [39, 53] hi hk) → (FF 39 [32] hi hk) → ((i + 5).toNat) < N → Z kX8_saysWord Q 3 [(3, AI i), (0, AR 40), (1, AL w)] [] hk := by
    intro N
    induction N with
    | zero => intro i hk _ _ _ _ _; exact absurd (by assumption) (Nat.not_lt_zero _)
    | succ N ih3 =>
      intro i hk i0 i1 frlhk ffl39hk hm3
      obtain ⟨M, plk, hM, bk, bm⟩ := i1
      refine z_iload_n (pc := 3) dX8_saysWord_3 rfl 0 rfl ?_
      refine z_if_lt (pc := 4) (tgt := 37) dX8_saysWord_4 (by decide) ⟨by omega, by omega⟩ (fun c1 => ?_) (fun c1 => ?_)
      · refine z_aload_n (pc := 37) (x := 40) dX8_saysWord_37 rfl 1 rfl ?_
        refine z_bipush (pc := 38) (v := 32) dX8_saysWord_38 (by decide +kernel) ?_
        refine z_callV (pc := 40) (kc := kX8_says) (n := 1) (pl := 39) (ci := 7) (C := RX8) (As := [AI 32]) (stk := []) ct_X8_says (gdV rfl rfl (iw42 _ (List.mem_of_getElem? (i := 12) rfl)) (iw42 _ (List.mem_of_getElem? (i := 13) rfl)) (iw42 _ (List.mem_of_getElem? (i := 14) rfl)) (iw1 _ (List.mem_of_getElem? (i := 5) rfl)) (iw42 _ (List.mem_of_getElem? (i := 15) rfl))) rfl ⟨rfl, rfl⟩ (by decide +kernel) ⟨by decide, by decide⟩ (by decide) rfl rfl dX8_saysWord_40 rfl rfl (Nat.le_of_ble_eq_true rfl) ?_
        refine ⟨_, (L ++ M), rfl, ⟨plk, by omega, by decide⟩, fun h2 eh2 => ?_⟩
        have frh2 : Fr [39, 53] hi h2 := (Fr.call frlhk eh2.1 (by decide))
        have ff39h2 : FF 39 [32] hi h2 := FF.call ffl39hk (eh2.2.1) (by decide)
        have plx := eh2.2.2.1
        have p32 := eh2.2.2.2
        refine z_vret (pc := 43) rfl dX8_saysWord_43 ?_
        exact hQ h2 ⟨frh2, ff39h2, by have q := wd_end hM (by omega); subst q; exact ⟨plx.cast (List.append_assoc _ _ _), by omega⟩⟩
      · refine z_lload_n (pc := 7) dX8_saysWord_7 rfl 2 rfl ?_
        refine z_iload_n (pc := 8) dX8_saysWord_8 rfl 0 rfl ?_
        refine z_lshr (pc := 9) dX8_saysWord_9 (fun v3 ev3 => ?_)
        have bv3 := toL_inL ev3
        refine z_ldc2 (pc := 10) (v := 31) (x := 31) (List.mem_cons_of_mem _ (iw42 _ (List.mem_of_getElem? (i := 20) rfl))) (by decide +kernel) dX8_saysWord_10 ?_
        refine z_land (pc := 13) dX8_saysWord_13 (fun v4 ev4 => ?_)
        have bv4 := toL_inL ev4
        refine z_l2i (pc := 14) dX8_saysWord_14 (fun v5 ev5 => ?_)
        have bv5 := toI_inR ev5
        have wv := wd_val (w := w) (i := i) hq (by omega) (by omega) (by omega) ev3 ev4 ev5
        refine z_istore (pc := 15) (lv' := [(4, AI v5), (3, AI i), (0, AR 40), (1, AL w)]) dX8_saysWord_15 (by decide) rfl ?_
        refine z_iload (pc := 17) dX8_saysWord_17 0 rfl ?_
        refine z_if_le (pc := 19) (tgt := 31) dX8_saysWord_19 (by decide) ⟨by omega, by omega⟩ (fun c6 => ?_) (fun c6 => ?_)
        · have wnn : 0 ≤ w / 32 ^ (i / 5).toNat % 32 ∧ w / 32 ^ (i / 5).toNat % 32 < 32 := ⟨Int.emod_nonneg _ (by decide), Int.emod_lt_of_pos _ (by decide)⟩
          refine z_iinc (pc := 31) (j := 1) (w := fun q => (3, AI q) :: [(4, AI v5), (0, AR 40), (1, AL w)]) dX8_saysWord_31 rfl (by decide) (fun _ => rfl) (fun v7 ev7 => ?_)
          refine z_goto (pc := 34) (tgt := 3) dX8_saysWord_34 (by decide) ?_
          refine z_sub (lv' := [(3, AI v7), (0, AR 40), (1, AL w)]) [0, 2, 3] rfl ?_
          exact ih3 v7 hk (by omega) (by first | exact ⟨M, plk, wd_n hM (by omega) (by omega) wv (by omega) (by omega), bk, bm⟩ | exact ⟨M ++ [{X}], plx.cast (List.append_assoc _ _ _), wd_y hM (by omega) (by omega) wv (by omega) (by omega) (by omega), by rw [List.length_append]; show _ = _ + ((M.length + 1 : Nat) : Int); omega, by rw [List.length_append]; exact wlt⟩) (frlhk) (ffl39hk) (by omega)
        · have wlt := wd_lt hM (by omega) (by omega) wv (by omega)
          have wnn : 0 ≤ w / 32 ^ (i / 5).toNat % 32 ∧ w / 32 ^ (i / 5).toNat % 32 < 32 := ⟨Int.emod_nonneg _ (by decide), Int.emod_lt_of_pos _ (by decide)⟩
          refine z_aload_n (pc := 22) (x := 40) dX8_saysWord_22 rfl 2 rfl ?_
          refine z_bipush (pc := 23) (v := 96) dX8_saysWord_23 (by decide +kernel) ?_
          refine z_iload (pc := 25) dX8_saysWord_25 0 rfl ?_
          refine z_iadd (pc := 27) dX8_saysWord_27 (fun v8 ev8 => ?_)
          refine z_callV (pc := 28) (kc := kX8_says) (n := 1) (pl := 39) (ci := 7) (C := RX8) (As := [AI v8]) (stk := []) ct_X8_says (gdV rfl rfl (iw42 _ (List.mem_of_getElem? (i := 12) rfl)) (iw42 _ (List.mem_of_getElem? (i := 13) rfl)) (iw42 _ (List.mem_of_getElem? (i := 14) rfl)) (iw1 _ (List.mem_of_getElem? (i := 5) rfl)) (iw42 _ (List.mem_of_getElem? (i := 15) rfl))) rfl ⟨rfl, rfl⟩ (by decide +kernel) ⟨by decide, by decide⟩ (by decide) rfl rfl dX8_saysWord_28 rfl rfl (Nat.le_of_ble_eq_true rfl) ?_
          refine ⟨_, (L ++ M), rfl, ⟨plk, by omega, by omega⟩, fun h9 eh9 => ?_⟩
          have frh9 : Fr [39, 53] hi h9 := (Fr.call frlhk eh9.1 (by decide))
          have ff39h9 : FF 39 [32] hi h9 := FF.call ffl39hk (eh9.2.1) (by decide)
          have plx := eh9.2.2.1
          have p32 := eh9.2.2.2
          refine z_iinc (pc := 31) (j := 1) (w := fun q => (3, AI q) :: [(4, AI v5), (0, AR 40), (1, AL w)]) dX8_saysWord_31 rfl (by decide) (fun _ => rfl) (fun v10 ev10 => ?_)
          refine z_goto (pc := 34) (tgt := 3) dX8_saysWord_34 (by decide) ?_
          refine z_sub (lv' := [(3, AI v10), (0, AR 40), (1, AL w)]) [0, 2, 3] rfl ?_
          exact ih3 v10 h9 (by omega) (by first | exact ⟨M, plk, wd_n hM (by omega) (by omega) wv (by omega) (by omega), bk, bm⟩ | exact ⟨M ++ [v8], plx.cast (List.append_assoc _ _ _), wd_y hM (by omega) (by omega) wv (by omega) (by omega) (by omega), by rw [List.length_append]; show _ = _ + ((M.length + 1 : Nat) : Int); omega, by rw [List.length_append]; exact wlt⟩) (frh9) (ff39h9) (by omega)
  exact J3 _ 30 hi (by omega) (⟨[], pl.cast (List.append_nil L).symm, rfl, by simp, Nat.zero_le _⟩) ((Fr.rf)) ((FF.rf)) (Nat.lt_succ_self _)

abbrev kX8_report : Kd := (cX8_report, .code yX8_report cX8_report 3 (some .int) :: wsL_law0, rmL 3, RX8, (some .int), 3)
theorem ct_X8_report : Ct kX8_report yX8_report (fun a hi Q => ∃ x : Int, a = [AR 40, AI x] ∧ (RI (hi 40) (hi 40 0) ∧ inR x) ∧ ∀ (v : Int) (h2 : HI), (Fr [39, 53] hi h2 ∧ FF 39 [0, 32] hi h2 ∧ (v = repV (hi 40) (hi 40 0) x ∧ h2 39 0 = 0)) → Q (AI v) h2) := by
  refine Ct.of (ws' := _) (by decide +kernel) rfl rfl ?_
  intro a hi Q hT
  obtain ⟨x, rfl, hpre, hQ⟩ := hT
  refine ⟨Nat.le_of_ble_eq_true rfl, ?_⟩
  show Z kX8_report Q 0 [(0, AR 40), (1, AI x)] [] hi
  have n40 := hpre.1.1
  have wl_ := wd_len
  refine z_aload_n (pc := 0) (x := 40) dX8_report_0 rfl 0 rfl ?_
  refine z_iconst (pc := 1) (v := 0) dX8_report_1 rfl ?_
  refine z_putI (pc := 2) (pl := 39) (f := 0) (ci := 7) (C := RX8) (T := TX8) (N := 33) hu_X8 tyX8_ok nmX8 (by decide) rfl rfl (by decide) rfl (List.mem_cons_of_mem _ (iw8 _ (List.mem_of_getElem? (i := 22) rfl))) rfl rfl (ty := .int) (by decide +kernel) rfl rfl ⟨by decide, by decide⟩ dX8_report_2 (fun h1 eh1 => ?_)
  have frh1 : Fr [39, 53] hi h1 := (Fr.put (Fr.rf) eh1 (by decide))
  have ff39h1 : FF 39 [0, 32] hi h1 := FF.put (FF.rf) eh1 (by decide)
  refine z_aload_n (pc := 5) (x := 40) dX8_report_5 rfl 0 rfl ?_
  refine z_iconst (pc := 6) (v := 0) dX8_report_6 rfl ?_
  refine z_putI (pc := 7) (pl := 39) (f := 32) (ci := 7) (C := RX8) (T := TX8) (N := 33) hu_X8 tyX8_ok nmX8 (by decide) rfl rfl (by decide) rfl (List.mem_cons_of_mem _ (iw42 _ (List.mem_of_getElem? (i := 6) rfl))) rfl rfl (ty := .int) (by decide +kernel) rfl rfl ⟨by decide, by decide⟩ dX8_report_7 (fun h2 eh2 => ?_)
  have frh2 : Fr [39, 53] hi h2 := (Fr.put frh1 eh2 (by decide))
  have ff39h2 : FF 39 [0, 32] hi h2 := FF.put ff39h1 eh2 (by decide)
  refine z_iconst (pc := 10) (v := 0) dX8_report_10 rfl ?_
  refine z_istore_n (pc := 11) (lv' := [(2, AI 0), (0, AR 40), (1, AI x)]) dX8_report_11 rfl (by decide) rfl ?_
  have J12 : ∀ (N : Nat) (k : Int) (hk : HI), (0 ≤ k ∧ k ≤ hi 40 0) → (PL (hk 53) (hk 39 32) (repB (hi 40) k.toNat) ∧ 0 ≤ hk 39 32 ∧ hk 39 32 ≤ 32 * k) → (hk 39 0 = 0) → (Fr [39, 53] hi hk) → (FF 39 [0, 32] hi hk) → ((hi 40 0 - k).toNat) < N → Z kX8_report Q 12 [(2, AI k), (0, AR 40), (1, AI x)] [] hk := by
    intro N
    induction N with
    | zero => intro k hk _ _ _ _ _ _; exact absurd (by assumption) (Nat.not_lt_zero _)
    | succ N ih12 =>
      intro k hk i0 i1 i2 frlhk ffl39hk hm12
      obtain ⟨pl, b37⟩ := i1
      have rk := fun q : k < hi 40 0 => toRng hpre.1 (k := k) ⟨i0.1, q⟩
      refine z_iload_n (pc := 12) dX8_report_12 rfl 0 rfl ?_
      refine z_aload_n (pc := 13) (x := 40) dX8_report_13 rfl 1 rfl ?_
      refine z_getR (pc := 14) (pl := 39) (f := 1) (ci := 7) (C := RX8) (T := TX8) (N := 33) hu_X8 (by decide) rfl rfl (by decide) rfl (List.mem_cons_of_mem _ (iw5 _ (List.mem_of_getElem? (i := 5) rfl))) rfl dX8_report_14 ?_
      refine z_iconst (pc := 17) (v := 0) dX8_report_17 rfl ?_
      refine z_iald (pc := 18) (pl := 40) (by decide) rfl (by decide) (by decide) (by decide) (by decide) dX8_report_18 (fun v3 ev3 rv3 => ?_)
      rw [(frlhk 40 (by decide) : hk 40 = hi 40)] at ev3
      replace ev3 : v3 = hi 40 0 := ev3
      refine z_icmp_ge (pc := 19) (tgt := 131) dX8_report_19 (by decide) ⟨by omega, by omega⟩ ⟨by omega, by omega⟩ (fun c4 => ?_) (fun c4 => ?_)
      · refine z_iload_n (pc := 131) dX8_report_131 rfl 2 rfl ?_
        refine z_iconst (pc := 132) (v := (-1)) dX8_report_132 rfl ?_
        refine z_icmp_ne (pc := 133) (tgt := 143) dX8_report_133 (by decide) ⟨by omega, by omega⟩ ⟨by decide, by decide⟩ (fun c5 => ?_) (fun c5 => ?_)
        · refine z_iload_n (pc := 143) dX8_report_143 rfl 2 rfl ?_
          refine z_iconst (pc := 144) (v := (-1)) dX8_report_144 rfl ?_
          refine z_icmp_ge (pc := 145) (tgt := 152) dX8_report_145 (by decide) ⟨by omega, by omega⟩ ⟨by decide, by decide⟩ (fun c6 => ?_) (fun c6 => ?_)
          · refine z_iload_n (pc := 152) dX8_report_152 rfl 2 rfl ?_
            refine z_aload_n (pc := 153) (x := 40) dX8_report_153 rfl 1 rfl ?_
            refine z_getI (pc := 154) (pl := 39) (f := 32) (ci := 7) (C := RX8) (T := TX8) (N := 33) hu_X8 (by decide) rfl rfl (by decide) rfl (List.mem_cons_of_mem _ (iw42 _ (List.mem_of_getElem? (i := 6) rfl))) rfl (by decide) dX8_report_154 (fun v7 ev7 rv7 => ?_)
            refine z_icmp_ge (pc := 157) (tgt := 169) dX8_report_157 (by decide) ⟨by omega, by omega⟩ ⟨by omega, by omega⟩ (fun c8 => ?_) (fun c8 => ?_)
            · refine z_bipush (pc := 169) (v := (-2)) dX8_report_169 (by decide +kernel) ?_
              refine z_iret (pc := 171) rfl dX8_report_171 ?_
              exact hQ (-2) hk ⟨frlhk, ffl39hk, ⟨by first | exact rep_1 (by omega) | exact rep_4 (by omega) (by rw [show hi 40 0 = k by omega]; have := pl.1; omega) | exact rep_2 (by omega) (by rw [show hi 40 0 = k by omega]; have := pl.1; omega) | exact rep_3 (by omega) (by rw [show hi 40 0 = k by omega]; have := pl.1; omega) (by rw [show hi 40 0 = k by omega, ← pl.get (by omega) (by omega)]; assumption), i2⟩⟩
            · refine z_aload_n (pc := 160) (x := 40) dX8_report_160 rfl 1 rfl ?_
              refine z_getR (pc := 161) (pl := 39) (f := 31) (ci := 7) (C := RX8) (T := TX8) (N := 33) hu_X8 (by decide) rfl rfl (by decide) rfl (List.mem_cons_of_mem _ (iw5 _ (List.mem_of_getElem? (i := 19) rfl))) rfl dX8_report_161 ?_
              refine z_iload_n (pc := 164) dX8_report_164 rfl 2 rfl ?_
              refine z_iald (pc := 165) (pl := 53) (by decide) rfl (by decide) (by decide) (by omega) (by omega) dX8_report_165 (fun v9 ev9 rv9 => ?_)
              refine z_goto (pc := 166) (tgt := 171) dX8_report_166 (by decide) ?_
              refine z_iret (pc := 171) rfl dX8_report_171 ?_
              exact hQ v9 hk ⟨frlhk, ffl39hk, ⟨by first | exact rep_1 (by omega) | exact rep_4 (by omega) (by rw [show hi 40 0 = k by omega]; have := pl.1; omega) | exact rep_2 (by omega) (by rw [show hi 40 0 = k by omega]; have := pl.1; omega) | exact rep_3 (by omega) (by rw [show hi 40 0 = k by omega]; have := pl.1; omega) (by rw [show hi 40 0 = k by omega, ← pl.get (by omega) (by omega)]; assumption), i2⟩⟩
          · refine z_iconst (pc := 148) (v := (-1)) dX8_report_148 rfl ?_
            refine z_goto (pc := 149) (tgt := 171) dX8_report_149 (by decide) ?_
            refine z_iret (pc := 171) rfl dX8_report_171 ?_
            exact hQ (-1) hk ⟨frlhk, ffl39hk, ⟨by first | exact rep_1 (by omega) | exact rep_4 (by omega) (by rw [show hi 40 0 = k by omega]; have := pl.1; omega) | exact rep_2 (by omega) (by rw [show hi 40 0 = k by omega]; have := pl.1; omega) | exact rep_3 (by omega) (by rw [show hi 40 0 = k by omega]; have := pl.1; omega) (by rw [show hi 40 0 = k by omega, ← pl.get (by omega) (by omega)]; assumption), i2⟩⟩
        · refine z_aload_n (pc := 136) (x := 40) dX8_report_136 rfl 1 rfl ?_
          refine z_getI (pc := 137) (pl := 39) (f := 32) (ci := 7) (C := RX8) (T := TX8) (N := 33) hu_X8 (by decide) rfl rfl (by decide) rfl (List.mem_cons_of_mem _ (iw42 _ (List.mem_of_getElem? (i := 6) rfl))) rfl (by decide) dX8_report_137 (fun v10 ev10 rv10 => ?_)
          refine z_goto (pc := 140) (tgt := 171) dX8_report_140 (by decide) ?_
          refine z_iret (pc := 171) rfl dX8_report_171 ?_
          exact hQ v10 hk ⟨frlhk, ffl39hk, ⟨by first | exact rep_1 (by omega) | exact rep_4 (by omega) (by rw [show hi 40 0 = k by omega]; have := pl.1; omega) | exact rep_2 (by omega) (by rw [show hi 40 0 = k by omega]; have := pl.1; omega) | exact rep_3 (by omega) (by rw [show hi 40 0 = k by omega]; have := pl.1; omega) (by rw [show hi 40 0 = k by omega, ← pl.get (by omega) (by omega)]; assumption), i2⟩⟩
      · refine z_aload_n (pc := 22) (x := 40) dX8_report_22 rfl 1 rfl ?_
        refine z_aload_n (pc := 23) (x := 40) dX8_report_23 rfl 1 rfl ?_
        refine z_iload_n (pc := 24) dX8_report_24 rfl 0 rfl ?_
        refine z_iconst (pc := 25) (v := 0) dX8_report_25 rfl ?_
        refine z_callV (pc := 26) (kc := kX8_its) (n := 2) (pl := 39) (ci := 7) (C := RX8) (As := [AI k, AI 0]) (stk := [AR 40]) ct_X8_its (gdV rfl rfl (iw13 _ (List.mem_of_getElem? (i := 0) rfl)) (iw13 _ (List.mem_of_getElem? (i := 1) rfl)) (iw13 _ (List.mem_of_getElem? (i := 2) rfl)) (iw1 _ (List.mem_of_getElem? (i := 5) rfl)) (iw13 _ (List.mem_of_getElem? (i := 3) rfl))) rfl ⟨rfl, rfl⟩ (by decide +kernel) ⟨by decide, by decide⟩ (by decide) rfl rfl dX8_report_26 rfl rfl (Nat.le_of_ble_eq_true rfl) ?_
        refine ⟨_, _, rfl, ⟨by omega, by decide, by decide⟩, fun v11 ev11 => ?_⟩
        try rw [(frlhk 40 (by decide) : hk 40 = hi 40)] at ev11
        replace ev11 : v11 = nO (hi 40) k ∧ inR v11 := ev11
        have rkk := rk (by omega)
        refine z_callV (pc := 29) (kc := kX8_saysNumber) (n := 1) (pl := 39) (ci := 7) (C := RX8) (As := [AI v11]) (stk := []) ct_X8_saysNumber (gdV rfl rfl (iw42 _ (List.mem_of_getElem? (i := 8) rfl)) (iw42 _ (List.mem_of_getElem? (i := 9) rfl)) (iw42 _ (List.mem_of_getElem? (i := 10) rfl)) (iw1 _ (List.mem_of_getElem? (i := 5) rfl)) (iw42 _ (List.mem_of_getElem? (i := 11) rfl))) rfl ⟨rfl, rfl⟩ (by decide +kernel) ⟨by decide, by decide⟩ (by decide) rfl rfl dX8_report_29 rfl rfl (Nat.le_of_ble_eq_true rfl) ?_
        refine ⟨_, (repB (hi 40) k.toNat), rfl, ⟨pl, by omega, by omega⟩, fun h12 eh12 => ?_⟩
        have frh12 : Fr [39, 53] hi h12 := (Fr.call frlhk eh12.1 (by decide))
        have ff39h12 : FF 39 [0, 32] hi h12 := FF.call ffl39hk (eh12.2.1) (by decide)
        rw [show v11 = nO (hi 40) k by omega] at eh12
        have plh12 := eh12.2.2.1
        have pqh12 := eh12.2.2.2
        refine z_aload_n (pc := 32) (x := 40) dX8_report_32 rfl 1 rfl ?_
        refine z_ldc2 (pc := 33) (v := 215533) (x := 215533) (List.mem_cons_of_mem _ (iw28 _ (List.mem_of_getElem? (i := 15) rfl))) (by decide +kernel) dX8_report_33 ?_
        refine z_callV (pc := 36) (kc := kX8_saysWord) (n := 1) (pl := 39) (ci := 7) (C := RX8) (As := [AL 215533]) (stk := []) ct_X8_saysWord (gdV rfl rfl (iw42 _ (List.mem_of_getElem? (i := 16) rfl)) (iw42 _ (List.mem_of_getElem? (i := 17) rfl)) (iw42 _ (List.mem_of_getElem? (i := 18) rfl)) (iw1 _ (List.mem_of_getElem? (i := 5) rfl)) (iw42 _ (List.mem_of_getElem? (i := 19) rfl))) rfl ⟨rfl, rfl⟩ (by decide +kernel) ⟨by decide, by decide⟩ (by decide) rfl rfl dX8_report_36 rfl rfl (Nat.le_of_ble_eq_true rfl) ?_
        refine ⟨_, ((repB (hi 40) k.toNat) ++ (numB (nO (hi 40) k) ++ [32])), rfl, ⟨plh12, by omega, by unfold isWd; omega⟩, fun h13 eh13 => ?_⟩
        have frh13 : Fr [39, 53] hi h13 := (Fr.call frh12 eh13.1 (by decide))
        have ff39h13 : FF 39 [0, 32] hi h13 := FF.call ff39h12 (eh13.2.1) (by decide)
        have plh13 := eh13.2.2.1
        have pqh13 := eh13.2.2.2
        refine z_aload_n (pc := 39) (x := 40) dX8_report_39 rfl 1 rfl ?_
        refine z_aload_n (pc := 40) (x := 40) dX8_report_40 rfl 1 rfl ?_
        refine z_iload_n (pc := 41) dX8_report_41 rfl 0 rfl ?_
        refine z_iconst (pc := 42) (v := 1) dX8_report_42 rfl ?_
        refine z_callV (pc := 43) (kc := kX8_its) (n := 2) (pl := 39) (ci := 7) (C := RX8) (As := [AI k, AI 1]) (stk := [AR 40]) ct_X8_its (gdV rfl rfl (iw13 _ (List.mem_of_getElem? (i := 0) rfl)) (iw13 _ (List.mem_of_getElem? (i := 1) rfl)) (iw13 _ (List.mem_of_getElem? (i := 2) rfl)) (iw1 _ (List.mem_of_getElem? (i := 5) rfl)) (iw13 _ (List.mem_of_getElem? (i := 3) rfl))) rfl ⟨rfl, rfl⟩ (by decide +kernel) ⟨by decide, by decide⟩ (by decide) rfl rfl dX8_report_43 rfl rfl (Nat.le_of_ble_eq_true rfl) ?_
        refine ⟨_, _, rfl, ⟨by omega, by decide, by decide⟩, fun v14 ev14 => ?_⟩
        try rw [(eh13.1 40 (by decide) : h13 40 = h12 40), (eh12.1 40 (by decide) : h12 40 = hk 40), (frlhk 40 (by decide) : hk 40 = hi 40)] at ev14
        replace ev14 : v14 = bO (hi 40) k ∧ inR v14 := ev14
        refine z_callV (pc := 46) (kc := kX8_saysNumber) (n := 1) (pl := 39) (ci := 7) (C := RX8) (As := [AI v14]) (stk := []) ct_X8_saysNumber (gdV rfl rfl (iw42 _ (List.mem_of_getElem? (i := 8) rfl)) (iw42 _ (List.mem_of_getElem? (i := 9) rfl)) (iw42 _ (List.mem_of_getElem? (i := 10) rfl)) (iw1 _ (List.mem_of_getElem? (i := 5) rfl)) (iw42 _ (List.mem_of_getElem? (i := 11) rfl))) rfl ⟨rfl, rfl⟩ (by decide +kernel) ⟨by decide, by decide⟩ (by decide) rfl rfl dX8_report_46 rfl rfl (Nat.le_of_ble_eq_true rfl) ?_
        refine ⟨_, (((repB (hi 40) k.toNat) ++ (numB (nO (hi 40) k) ++ [32])) ++ (wdB 215533 7 ++ [32])), rfl, ⟨plh13, by omega, by omega⟩, fun h15 eh15 => ?_⟩
        have frh15 : Fr [39, 53] hi h15 := (Fr.call frh13 eh15.1 (by decide))
        have ff39h15 : FF 39 [0, 32] hi h15 := FF.call ff39h13 (eh15.2.1) (by decide)
        rw [show v14 = bO (hi 40) k by omega] at eh15
        have plh15 := eh15.2.2.1
        have pqh15 := eh15.2.2.2
        refine z_aload_n (pc := 49) (x := 40) dX8_report_49 rfl 1 rfl ?_
        refine z_iload_n (pc := 50) dX8_report_50 rfl 0 rfl ?_
        refine z_iconst (pc := 51) (v := 2) dX8_report_51 rfl ?_
        refine z_callV (pc := 52) (kc := kX8_its) (n := 2) (pl := 39) (ci := 7) (C := RX8) (As := [AI k, AI 2]) (stk := []) ct_X8_its (gdV rfl rfl (iw13 _ (List.mem_of_getElem? (i := 0) rfl)) (iw13 _ (List.mem_of_getElem? (i := 1) rfl)) (iw13 _ (List.mem_of_getElem? (i := 2) rfl)) (iw1 _ (List.mem_of_getElem? (i := 5) rfl)) (iw13 _ (List.mem_of_getElem? (i := 3) rfl))) rfl ⟨rfl, rfl⟩ (by decide +kernel) ⟨by decide, by decide⟩ (by decide) rfl rfl dX8_report_52 rfl rfl (Nat.le_of_ble_eq_true rfl) ?_
        refine ⟨_, _, rfl, ⟨by omega, by decide, by decide⟩, fun v16 ev16 => ?_⟩
        try rw [(eh15.1 40 (by decide) : h15 40 = h13 40), (eh13.1 40 (by decide) : h13 40 = h12 40), (eh12.1 40 (by decide) : h12 40 = hk 40), (frlhk 40 (by decide) : hk 40 = hi 40)] at ev16
        replace ev16 : v16 = dO (hi 40) k ∧ inR v16 := ev16
        refine z_bipush (pc := 55) (v := 64) dX8_report_55 (by decide +kernel) ?_
        refine z_icmp_ne (pc := 57) (tgt := 70) dX8_report_57 (by decide) ⟨by omega, by omega⟩ ⟨by decide, by decide⟩ (fun c17 => ?_) (fun c17 => ?_)
        · refine z_aload_n (pc := 70) (x := 40) dX8_report_70 rfl 1 rfl ?_
          refine z_ldc2 (pc := 71) (v := 655) (x := 655) (List.mem_cons_of_mem _ (iw28 _ (List.mem_of_getElem? (i := 21) rfl))) (by decide +kernel) dX8_report_71 ?_
          refine z_callV (pc := 74) (kc := kX8_saysWord) (n := 1) (pl := 39) (ci := 7) (C := RX8) (As := [AL 655]) (stk := []) ct_X8_saysWord (gdV rfl rfl (iw42 _ (List.mem_of_getElem? (i := 16) rfl)) (iw42 _ (List.mem_of_getElem? (i := 17) rfl)) (iw42 _ (List.mem_of_getElem? (i := 18) rfl)) (iw1 _ (List.mem_of_getElem? (i := 5) rfl)) (iw42 _ (List.mem_of_getElem? (i := 19) rfl))) rfl ⟨rfl, rfl⟩ (by decide +kernel) ⟨by decide, by decide⟩ (by decide) rfl rfl dX8_report_74 rfl rfl (Nat.le_of_ble_eq_true rfl) ?_
          refine ⟨_, ((((repB (hi 40) k.toNat) ++ (numB (nO (hi 40) k) ++ [32])) ++ (wdB 215533 7 ++ [32])) ++ (numB (bO (hi 40) k) ++ [32])), rfl, ⟨plh15, by omega, by unfold isWd; omega⟩, fun h18 eh18 => ?_⟩
          have frh18 : Fr [39, 53] hi h18 := (Fr.call frh15 eh18.1 (by decide))
          have ff39h18 : FF 39 [0, 32] hi h18 := FF.call ff39h15 (eh18.2.1) (by decide)
          have plh18 := eh18.2.2.1
          have pqh18 := eh18.2.2.2
          refine z_aload_n (pc := 77) (x := 40) dX8_report_77 rfl 1 rfl ?_
          refine z_aload_n (pc := 78) (x := 40) dX8_report_78 rfl 1 rfl ?_
          refine z_iload_n (pc := 79) dX8_report_79 rfl 0 rfl ?_
          refine z_iconst (pc := 80) (v := 2) dX8_report_80 rfl ?_
          refine z_callV (pc := 81) (kc := kX8_its) (n := 2) (pl := 39) (ci := 7) (C := RX8) (As := [AI k, AI 2]) (stk := [AR 40]) ct_X8_its (gdV rfl rfl (iw13 _ (List.mem_of_getElem? (i := 0) rfl)) (iw13 _ (List.mem_of_getElem? (i := 1) rfl)) (iw13 _ (List.mem_of_getElem? (i := 2) rfl)) (iw1 _ (List.mem_of_getElem? (i := 5) rfl)) (iw13 _ (List.mem_of_getElem? (i := 3) rfl))) rfl ⟨rfl, rfl⟩ (by decide +kernel) ⟨by decide, by decide⟩ (by decide) rfl rfl dX8_report_81 rfl rfl (Nat.le_of_ble_eq_true rfl) ?_
          refine ⟨_, _, rfl, ⟨by omega, by decide, by decide⟩, fun v19 ev19 => ?_⟩
          try rw [(eh18.1 40 (by decide) : h18 40 = h15 40), (eh15.1 40 (by decide) : h15 40 = h13 40), (eh13.1 40 (by decide) : h13 40 = h12 40), (eh12.1 40 (by decide) : h12 40 = hk 40), (frlhk 40 (by decide) : hk 40 = hi 40)] at ev19
          replace ev19 : v19 = dO (hi 40) k ∧ inR v19 := ev19
          refine z_callV (pc := 84) (kc := kX8_saysNumber) (n := 1) (pl := 39) (ci := 7) (C := RX8) (As := [AI v19]) (stk := []) ct_X8_saysNumber (gdV rfl rfl (iw42 _ (List.mem_of_getElem? (i := 8) rfl)) (iw42 _ (List.mem_of_getElem? (i := 9) rfl)) (iw42 _ (List.mem_of_getElem? (i := 10) rfl)) (iw1 _ (List.mem_of_getElem? (i := 5) rfl)) (iw42 _ (List.mem_of_getElem? (i := 11) rfl))) rfl ⟨rfl, rfl⟩ (by decide +kernel) ⟨by decide, by decide⟩ (by decide) rfl rfl dX8_report_84 rfl rfl (Nat.le_of_ble_eq_true rfl) ?_
          refine ⟨_, (((((repB (hi 40) k.toNat) ++ (numB (nO (hi 40) k) ++ [32])) ++ (wdB 215533 7 ++ [32])) ++ (numB (bO (hi 40) k) ++ [32])) ++ (wdB 655 7 ++ [32])), rfl, ⟨plh18, by omega, by omega⟩, fun h20 eh20 => ?_⟩
          have frh20 : Fr [39, 53] hi h20 := (Fr.call frh18 eh20.1 (by decide))
          have ff39h20 : FF 39 [0, 32] hi h20 := FF.call ff39h18 (eh20.2.1) (by decide)
          rw [show v19 = dO (hi 40) k by omega] at eh20
          have plh20 := eh20.2.2.1
          have pqh20 := eh20.2.2.2
          refine z_aload_n (pc := 87) (x := 40) dX8_report_87 rfl 1 rfl ?_
          refine z_iload_n (pc := 88) dX8_report_88 rfl 0 rfl ?_
          refine z_iconst (pc := 89) (v := 3) dX8_report_89 rfl ?_
          refine z_callV (pc := 90) (kc := kX8_its) (n := 2) (pl := 39) (ci := 7) (C := RX8) (As := [AI k, AI 3]) (stk := []) ct_X8_its (gdV rfl rfl (iw13 _ (List.mem_of_getElem? (i := 0) rfl)) (iw13 _ (List.mem_of_getElem? (i := 1) rfl)) (iw13 _ (List.mem_of_getElem? (i := 2) rfl)) (iw1 _ (List.mem_of_getElem? (i := 5) rfl)) (iw13 _ (List.mem_of_getElem? (i := 3) rfl))) rfl ⟨rfl, rfl⟩ (by decide +kernel) ⟨by decide, by decide⟩ (by decide) rfl rfl dX8_report_90 rfl rfl (Nat.le_of_ble_eq_true rfl) ?_
          refine ⟨_, _, rfl, ⟨by omega, by decide, by decide⟩, fun v21 ev21 => ?_⟩
          try rw [(eh20.1 40 (by decide) : h20 40 = h18 40), (eh18.1 40 (by decide) : h18 40 = h15 40), (eh15.1 40 (by decide) : h15 40 = h13 40), (eh13.1 40 (by decide) : h13 40 = h12 40), (eh12.1 40 (by decide) : h12 40 = hk 40), (frlhk 40 (by decide) : hk 40 = hi 40)] at ev21
          replace ev21 : v21 = wO (hi 40) k ∧ inR v21 := ev21
          refine z_if_eq (pc := 93) (tgt := 113) dX8_report_93 (by decide) ⟨by omega, by omega⟩ (fun c22 => ?_) (fun c22 => ?_)
          · refine z_aload_n (pc := 113) (x := 40) dX8_report_113 rfl 1 rfl ?_
            refine z_bipush (pc := 114) (v := 59) dX8_report_114 (by decide +kernel) ?_
            refine z_callV (pc := 116) (kc := kX8_says) (n := 1) (pl := 39) (ci := 7) (C := RX8) (As := [AI 59]) (stk := []) ct_X8_says (gdV rfl rfl (iw42 _ (List.mem_of_getElem? (i := 12) rfl)) (iw42 _ (List.mem_of_getElem? (i := 13) rfl)) (iw42 _ (List.mem_of_getElem? (i := 14) rfl)) (iw1 _ (List.mem_of_getElem? (i := 5) rfl)) (iw42 _ (List.mem_of_getElem? (i := 15) rfl))) rfl ⟨rfl, rfl⟩ (by decide +kernel) ⟨by decide, by decide⟩ (by decide) rfl rfl dX8_report_116 rfl rfl (Nat.le_of_ble_eq_true rfl) ?_
            refine ⟨_, ((((((repB (hi 40) k.toNat) ++ (numB (nO (hi 40) k) ++ [32])) ++ (wdB 215533 7 ++ [32])) ++ (numB (bO (hi 40) k) ++ [32])) ++ (wdB 655 7 ++ [32])) ++ (numB (dO (hi 40) k) ++ [32])), rfl, ⟨plh20, by omega, ⟨by decide, by decide⟩⟩, fun h23 eh23 => ?_⟩
            have frh23 : Fr [39, 53] hi h23 := (Fr.call frh20 eh23.1 (by decide))
            have ff39h23 : FF 39 [0, 32] hi h23 := FF.call ff39h20 (eh23.2.1) (by decide)
            have plh23 := eh23.2.2.1
            have pqh23 := eh23.2.2.2
            refine z_aload_n (pc := 119) (x := 40) dX8_report_119 rfl 1 rfl ?_
            refine z_bipush (pc := 120) (v := 32) dX8_report_120 (by decide +kernel) ?_
            refine z_callV (pc := 122) (kc := kX8_says) (n := 1) (pl := 39) (ci := 7) (C := RX8) (As := [AI 32]) (stk := []) ct_X8_says (gdV rfl rfl (iw42 _ (List.mem_of_getElem? (i := 12) rfl)) (iw42 _ (List.mem_of_getElem? (i := 13) rfl)) (iw42 _ (List.mem_of_getElem? (i := 14) rfl)) (iw1 _ (List.mem_of_getElem? (i := 5) rfl)) (iw42 _ (List.mem_of_getElem? (i := 15) rfl))) rfl ⟨rfl, rfl⟩ (by decide +kernel) ⟨by decide, by decide⟩ (by decide) rfl rfl dX8_report_122 rfl rfl (Nat.le_of_ble_eq_true rfl) ?_
            refine ⟨_, (((((((repB (hi 40) k.toNat) ++ (numB (nO (hi 40) k) ++ [32])) ++ (wdB 215533 7 ++ [32])) ++ (numB (bO (hi 40) k) ++ [32])) ++ (wdB 655 7 ++ [32])) ++ (numB (dO (hi 40) k) ++ [32])) ++ [59]), rfl, ⟨plh23, by omega, ⟨by decide, by decide⟩⟩, fun h24 eh24 => ?_⟩
            have frh24 : Fr [39, 53] hi h24 := (Fr.call frh23 eh24.1 (by decide))
            have ff39h24 : FF 39 [0, 32] hi h24 := FF.call ff39h23 (eh24.2.1) (by decide)
            have plh24 := eh24.2.2.1
            have pqh24 := eh24.2.2.2
            refine z_iinc (pc := 125) (j := 0) (w := fun q => (2, AI q) :: [(0, AR 40), (1, AI x)]) dX8_report_125 rfl (by decide) (fun _ => rfl) (fun v25 ev25 => ?_)
            refine z_goto (pc := 128) (tgt := 12) dX8_report_128 (by decide) ?_
            exact ih12 v25 h24 (by omega) (⟨(plh24.cast (lifeM_30 (by omega) (by omega))).cast (rep_step (by omega) (by omega)), by omega⟩) (by rw [(by rw [(eh24.2.1 0 (by decide) : h24 39 0 = h23 39 0), (eh23.2.1 0 (by decide) : h23 39 0 = h20 39 0), (eh20.2.1 0 (by decide) : h20 39 0 = h18 39 0), (eh18.2.1 0 (by decide) : h18 39 0 = h15 39 0), (eh15.2.1 0 (by decide) : h15 39 0 = h13 39 0), (eh13.2.1 0 (by decide) : h13 39 0 = h12 39 0), (eh12.2.1 0 (by decide) : h12 39 0 = hk 39 0)] : h24 39 0 = hk 39 0)]; exact i2) (frh24) (ff39h24) (by omega)
          · refine z_aload_n (pc := 96) (x := 40) dX8_report_96 rfl 1 rfl ?_
            refine z_ldc2 (pc := 97) (v := 24627848) (x := 24627848) (List.mem_cons_of_mem _ (iw28 _ (List.mem_of_getElem? (i := 20) rfl))) (by decide +kernel) dX8_report_97 ?_
            refine z_callV (pc := 100) (kc := kX8_saysWord) (n := 1) (pl := 39) (ci := 7) (C := RX8) (As := [AL 24627848]) (stk := []) ct_X8_saysWord (gdV rfl rfl (iw42 _ (List.mem_of_getElem? (i := 16) rfl)) (iw42 _ (List.mem_of_getElem? (i := 17) rfl)) (iw42 _ (List.mem_of_getElem? (i := 18) rfl)) (iw1 _ (List.mem_of_getElem? (i := 5) rfl)) (iw42 _ (List.mem_of_getElem? (i := 19) rfl))) rfl ⟨rfl, rfl⟩ (by decide +kernel) ⟨by decide, by decide⟩ (by decide) rfl rfl dX8_report_100 rfl rfl (Nat.le_of_ble_eq_true rfl) ?_
            refine ⟨_, ((((((repB (hi 40) k.toNat) ++ (numB (nO (hi 40) k) ++ [32])) ++ (wdB 215533 7 ++ [32])) ++ (numB (bO (hi 40) k) ++ [32])) ++ (wdB 655 7 ++ [32])) ++ (numB (dO (hi 40) k) ++ [32])), rfl, ⟨plh20, by omega, by unfold isWd; omega⟩, fun h26 eh26 => ?_⟩
            have frh26 : Fr [39, 53] hi h26 := (Fr.call frh20 eh26.1 (by decide))
            have ff39h26 : FF 39 [0, 32] hi h26 := FF.call ff39h20 (eh26.2.1) (by decide)
            have plh26 := eh26.2.2.1
            have pqh26 := eh26.2.2.2
            refine z_aload_n (pc := 103) (x := 40) dX8_report_103 rfl 1 rfl ?_
            refine z_aload_n (pc := 104) (x := 40) dX8_report_104 rfl 1 rfl ?_
            refine z_iload_n (pc := 105) dX8_report_105 rfl 0 rfl ?_
            refine z_iconst (pc := 106) (v := 3) dX8_report_106 rfl ?_
            refine z_callV (pc := 107) (kc := kX8_its) (n := 2) (pl := 39) (ci := 7) (C := RX8) (As := [AI k, AI 3]) (stk := [AR 40]) ct_X8_its (gdV rfl rfl (iw13 _ (List.mem_of_getElem? (i := 0) rfl)) (iw13 _ (List.mem_of_getElem? (i := 1) rfl)) (iw13 _ (List.mem_of_getElem? (i := 2) rfl)) (iw1 _ (List.mem_of_getElem? (i := 5) rfl)) (iw13 _ (List.mem_of_getElem? (i := 3) rfl))) rfl ⟨rfl, rfl⟩ (by decide +kernel) ⟨by decide, by decide⟩ (by decide) rfl rfl dX8_report_107 rfl rfl (Nat.le_of_ble_eq_true rfl) ?_
            refine ⟨_, _, rfl, ⟨by omega, by decide, by decide⟩, fun v27 ev27 => ?_⟩
            try rw [(eh26.1 40 (by decide) : h26 40 = h20 40), (eh20.1 40 (by decide) : h20 40 = h18 40), (eh18.1 40 (by decide) : h18 40 = h15 40), (eh15.1 40 (by decide) : h15 40 = h13 40), (eh13.1 40 (by decide) : h13 40 = h12 40), (eh12.1 40 (by decide) : h12 40 = hk 40), (frlhk 40 (by decide) : hk 40 = hi 40)] at ev27
            replace ev27 : v27 = wO (hi 40) k ∧ inR v27 := ev27
            refine z_callV (pc := 110) (kc := kX8_saysNumber) (n := 1) (pl := 39) (ci := 7) (C := RX8) (As := [AI v27]) (stk := []) ct_X8_saysNumber (gdV rfl rfl (iw42 _ (List.mem_of_getElem? (i := 8) rfl)) (iw42 _ (List.mem_of_getElem? (i := 9) rfl)) (iw42 _ (List.mem_of_getElem? (i := 10) rfl)) (iw1 _ (List.mem_of_getElem? (i := 5) rfl)) (iw42 _ (List.mem_of_getElem? (i := 11) rfl))) rfl ⟨rfl, rfl⟩ (by decide +kernel) ⟨by decide, by decide⟩ (by decide) rfl rfl dX8_report_110 rfl rfl (Nat.le_of_ble_eq_true rfl) ?_
            refine ⟨_, (((((((repB (hi 40) k.toNat) ++ (numB (nO (hi 40) k) ++ [32])) ++ (wdB 215533 7 ++ [32])) ++ (numB (bO (hi 40) k) ++ [32])) ++ (wdB 655 7 ++ [32])) ++ (numB (dO (hi 40) k) ++ [32])) ++ (wdB 24627848 7 ++ [32])), rfl, ⟨plh26, by omega, by omega⟩, fun h28 eh28 => ?_⟩
            have frh28 : Fr [39, 53] hi h28 := (Fr.call frh26 eh28.1 (by decide))
            have ff39h28 : FF 39 [0, 32] hi h28 := FF.call ff39h26 (eh28.2.1) (by decide)
            rw [show v27 = wO (hi 40) k by omega] at eh28
            have plh28 := eh28.2.2.1
            have pqh28 := eh28.2.2.2
            refine z_aload_n (pc := 113) (x := 40) dX8_report_113 rfl 1 rfl ?_
            refine z_bipush (pc := 114) (v := 59) dX8_report_114 (by decide +kernel) ?_
            refine z_callV (pc := 116) (kc := kX8_says) (n := 1) (pl := 39) (ci := 7) (C := RX8) (As := [AI 59]) (stk := []) ct_X8_says (gdV rfl rfl (iw42 _ (List.mem_of_getElem? (i := 12) rfl)) (iw42 _ (List.mem_of_getElem? (i := 13) rfl)) (iw42 _ (List.mem_of_getElem? (i := 14) rfl)) (iw1 _ (List.mem_of_getElem? (i := 5) rfl)) (iw42 _ (List.mem_of_getElem? (i := 15) rfl))) rfl ⟨rfl, rfl⟩ (by decide +kernel) ⟨by decide, by decide⟩ (by decide) rfl rfl dX8_report_116 rfl rfl (Nat.le_of_ble_eq_true rfl) ?_
            refine ⟨_, ((((((((repB (hi 40) k.toNat) ++ (numB (nO (hi 40) k) ++ [32])) ++ (wdB 215533 7 ++ [32])) ++ (numB (bO (hi 40) k) ++ [32])) ++ (wdB 655 7 ++ [32])) ++ (numB (dO (hi 40) k) ++ [32])) ++ (wdB 24627848 7 ++ [32])) ++ (numB (wO (hi 40) k) ++ [32])), rfl, ⟨plh28, by omega, ⟨by decide, by decide⟩⟩, fun h29 eh29 => ?_⟩
            have frh29 : Fr [39, 53] hi h29 := (Fr.call frh28 eh29.1 (by decide))
            have ff39h29 : FF 39 [0, 32] hi h29 := FF.call ff39h28 (eh29.2.1) (by decide)
            have plh29 := eh29.2.2.1
            have pqh29 := eh29.2.2.2
            refine z_aload_n (pc := 119) (x := 40) dX8_report_119 rfl 1 rfl ?_
            refine z_bipush (pc := 120) (v := 32) dX8_report_120 (by decide +kernel) ?_
            refine z_callV (pc := 122) (kc := kX8_says) (n := 1) (pl := 39) (ci := 7) (C := RX8) (As := [AI 32]) (stk := []) ct_X8_says (gdV rfl rfl (iw42 _ (List.mem_of_getElem? (i := 12) rfl)) (iw42 _ (List.mem_of_getElem? (i := 13) rfl)) (iw42 _ (List.mem_of_getElem? (i := 14) rfl)) (iw1 _ (List.mem_of_getElem? (i := 5) rfl)) (iw42 _ (List.mem_of_getElem? (i := 15) rfl))) rfl ⟨rfl, rfl⟩ (by decide +kernel) ⟨by decide, by decide⟩ (by decide) rfl rfl dX8_report_122 rfl rfl (Nat.le_of_ble_eq_true rfl) ?_
            refine ⟨_, (((((((((repB (hi 40) k.toNat) ++ (numB (nO (hi 40) k) ++ [32])) ++ (wdB 215533 7 ++ [32])) ++ (numB (bO (hi 40) k) ++ [32])) ++ (wdB 655 7 ++ [32])) ++ (numB (dO (hi 40) k) ++ [32])) ++ (wdB 24627848 7 ++ [32])) ++ (numB (wO (hi 40) k) ++ [32])) ++ [59]), rfl, ⟨plh29, by omega, ⟨by decide, by decide⟩⟩, fun h30 eh30 => ?_⟩
            have frh30 : Fr [39, 53] hi h30 := (Fr.call frh29 eh30.1 (by decide))
            have ff39h30 : FF 39 [0, 32] hi h30 := FF.call ff39h29 (eh30.2.1) (by decide)
            have plh30 := eh30.2.2.1
            have pqh30 := eh30.2.2.2
            refine z_iinc (pc := 125) (j := 0) (w := fun q => (2, AI q) :: [(0, AR 40), (1, AI x)]) dX8_report_125 rfl (by decide) (fun _ => rfl) (fun v31 ev31 => ?_)
            refine z_goto (pc := 128) (tgt := 12) dX8_report_128 (by decide) ?_
            exact ih12 v31 h30 (by omega) (⟨(plh30.cast (lifeM_31 (by omega) (by omega))).cast (rep_step (by omega) (by omega)), by omega⟩) (by rw [(by rw [(eh30.2.1 0 (by decide) : h30 39 0 = h29 39 0), (eh29.2.1 0 (by decide) : h29 39 0 = h28 39 0), (eh28.2.1 0 (by decide) : h28 39 0 = h26 39 0), (eh26.2.1 0 (by decide) : h26 39 0 = h20 39 0), (eh20.2.1 0 (by decide) : h20 39 0 = h18 39 0), (eh18.2.1 0 (by decide) : h18 39 0 = h15 39 0), (eh15.2.1 0 (by decide) : h15 39 0 = h13 39 0), (eh13.2.1 0 (by decide) : h13 39 0 = h12 39 0), (eh12.2.1 0 (by decide) : h12 39 0 = hk 39 0)] : h30 39 0 = hk 39 0)]; exact i2) (frh30) (ff39h30) (by omega)
        · refine z_aload_n (pc := 60) (x := 40) dX8_report_60 rfl 1 rfl ?_
          refine z_ldc2 (pc := 61) (v := 494) (x := 494) (List.mem_cons_of_mem _ (iw42 _ (List.mem_of_getElem? (i := 7) rfl))) (by decide +kernel) dX8_report_61 ?_
          refine z_callV (pc := 64) (kc := kX8_saysWord) (n := 1) (pl := 39) (ci := 7) (C := RX8) (As := [AL 494]) (stk := []) ct_X8_saysWord (gdV rfl rfl (iw42 _ (List.mem_of_getElem? (i := 16) rfl)) (iw42 _ (List.mem_of_getElem? (i := 17) rfl)) (iw42 _ (List.mem_of_getElem? (i := 18) rfl)) (iw1 _ (List.mem_of_getElem? (i := 5) rfl)) (iw42 _ (List.mem_of_getElem? (i := 19) rfl))) rfl ⟨rfl, rfl⟩ (by decide +kernel) ⟨by decide, by decide⟩ (by decide) rfl rfl dX8_report_64 rfl rfl (Nat.le_of_ble_eq_true rfl) ?_
          refine ⟨_, ((((repB (hi 40) k.toNat) ++ (numB (nO (hi 40) k) ++ [32])) ++ (wdB 215533 7 ++ [32])) ++ (numB (bO (hi 40) k) ++ [32])), rfl, ⟨plh15, by omega, by unfold isWd; omega⟩, fun h32 eh32 => ?_⟩
          have frh32 : Fr [39, 53] hi h32 := (Fr.call frh15 eh32.1 (by decide))
          have ff39h32 : FF 39 [0, 32] hi h32 := FF.call ff39h15 (eh32.2.1) (by decide)
          have plh32 := eh32.2.2.1
          have pqh32 := eh32.2.2.2
          refine z_goto (pc := 67) (tgt := 87) dX8_report_67 (by decide) ?_
          refine z_aload_n (pc := 87) (x := 40) dX8_report_87 rfl 1 rfl ?_
          refine z_iload_n (pc := 88) dX8_report_88 rfl 0 rfl ?_
          refine z_iconst (pc := 89) (v := 3) dX8_report_89 rfl ?_
          refine z_callV (pc := 90) (kc := kX8_its) (n := 2) (pl := 39) (ci := 7) (C := RX8) (As := [AI k, AI 3]) (stk := []) ct_X8_its (gdV rfl rfl (iw13 _ (List.mem_of_getElem? (i := 0) rfl)) (iw13 _ (List.mem_of_getElem? (i := 1) rfl)) (iw13 _ (List.mem_of_getElem? (i := 2) rfl)) (iw1 _ (List.mem_of_getElem? (i := 5) rfl)) (iw13 _ (List.mem_of_getElem? (i := 3) rfl))) rfl ⟨rfl, rfl⟩ (by decide +kernel) ⟨by decide, by decide⟩ (by decide) rfl rfl dX8_report_90 rfl rfl (Nat.le_of_ble_eq_true rfl) ?_
          refine ⟨_, _, rfl, ⟨by omega, by decide, by decide⟩, fun v33 ev33 => ?_⟩
          try rw [(eh32.1 40 (by decide) : h32 40 = h15 40), (eh15.1 40 (by decide) : h15 40 = h13 40), (eh13.1 40 (by decide) : h13 40 = h12 40), (eh12.1 40 (by decide) : h12 40 = hk 40), (frlhk 40 (by decide) : hk 40 = hi 40)] at ev33
          replace ev33 : v33 = wO (hi 40) k ∧ inR v33 := ev33
          refine z_if_eq (pc := 93) (tgt := 113) dX8_report_93 (by decide) ⟨by omega, by omega⟩ (fun c34 => ?_) (fun c34 => ?_)
          · refine z_aload_n (pc := 113) (x := 40) dX8_report_113 rfl 1 rfl ?_
            refine z_bipush (pc := 114) (v := 59) dX8_report_114 (by decide +kernel) ?_
            refine z_callV (pc := 116) (kc := kX8_says) (n := 1) (pl := 39) (ci := 7) (C := RX8) (As := [AI 59]) (stk := []) ct_X8_says (gdV rfl rfl (iw42 _ (List.mem_of_getElem? (i := 12) rfl)) (iw42 _ (List.mem_of_getElem? (i := 13) rfl)) (iw42 _ (List.mem_of_getElem? (i := 14) rfl)) (iw1 _ (List.mem_of_getElem? (i := 5) rfl)) (iw42 _ (List.mem_of_getElem? (i := 15) rfl))) rfl ⟨rfl, rfl⟩ (by decide +kernel) ⟨by decide, by decide⟩ (by decide) rfl rfl dX8_report_116 rfl rfl (Nat.le_of_ble_eq_true rfl) ?_
            refine ⟨_, (((((repB (hi 40) k.toNat) ++ (numB (nO (hi 40) k) ++ [32])) ++ (wdB 215533 7 ++ [32])) ++ (numB (bO (hi 40) k) ++ [32])) ++ (wdB 494 7 ++ [32])), rfl, ⟨plh32, by omega, ⟨by decide, by decide⟩⟩, fun h35 eh35 => ?_⟩
            have frh35 : Fr [39, 53] hi h35 := (Fr.call frh32 eh35.1 (by decide))
            have ff39h35 : FF 39 [0, 32] hi h35 := FF.call ff39h32 (eh35.2.1) (by decide)
            have plh35 := eh35.2.2.1
            have pqh35 := eh35.2.2.2
            refine z_aload_n (pc := 119) (x := 40) dX8_report_119 rfl 1 rfl ?_
            refine z_bipush (pc := 120) (v := 32) dX8_report_120 (by decide +kernel) ?_
            refine z_callV (pc := 122) (kc := kX8_says) (n := 1) (pl := 39) (ci := 7) (C := RX8) (As := [AI 32]) (stk := []) ct_X8_says (gdV rfl rfl (iw42 _ (List.mem_of_getElem? (i := 12) rfl)) (iw42 _ (List.mem_of_getElem? (i := 13) rfl)) (iw42 _ (List.mem_of_getElem? (i := 14) rfl)) (iw1 _ (List.mem_of_getElem? (i := 5) rfl)) (iw42 _ (List.mem_of_getElem? (i := 15) rfl))) rfl ⟨rfl, rfl⟩ (by decide +kernel) ⟨by decide, by decide⟩ (by decide) rfl rfl dX8_report_122 rfl rfl (Nat.le_of_ble_eq_true rfl) ?_
            refine ⟨_, ((((((repB (hi 40) k.toNat) ++ (numB (nO (hi 40) k) ++ [32])) ++ (wdB 215533 7 ++ [32])) ++ (numB (bO (hi 40) k) ++ [32])) ++ (wdB 494 7 ++ [32])) ++ [59]), rfl, ⟨plh35, by omega, ⟨by decide, by decide⟩⟩, fun h36 eh36 => ?_⟩
            have frh36 : Fr [39, 53] hi h36 := (Fr.call frh35 eh36.1 (by decide))
            have ff39h36 : FF 39 [0, 32] hi h36 := FF.call ff39h35 (eh36.2.1) (by decide)
            have plh36 := eh36.2.2.1
            have pqh36 := eh36.2.2.2
            refine z_iinc (pc := 125) (j := 0) (w := fun q => (2, AI q) :: [(0, AR 40), (1, AI x)]) dX8_report_125 rfl (by decide) (fun _ => rfl) (fun v37 ev37 => ?_)
            refine z_goto (pc := 128) (tgt := 12) dX8_report_128 (by decide) ?_
            exact ih12 v37 h36 (by omega) (⟨(plh36.cast (lifeM_40 (by omega) (by omega))).cast (rep_step (by omega) (by omega)), by omega⟩) (by rw [(by rw [(eh36.2.1 0 (by decide) : h36 39 0 = h35 39 0), (eh35.2.1 0 (by decide) : h35 39 0 = h32 39 0), (eh32.2.1 0 (by decide) : h32 39 0 = h15 39 0), (eh15.2.1 0 (by decide) : h15 39 0 = h13 39 0), (eh13.2.1 0 (by decide) : h13 39 0 = h12 39 0), (eh12.2.1 0 (by decide) : h12 39 0 = hk 39 0)] : h36 39 0 = hk 39 0)]; exact i2) (frh36) (ff39h36) (by omega)
          · refine z_aload_n (pc := 96) (x := 40) dX8_report_96 rfl 1 rfl ?_
            refine z_ldc2 (pc := 97) (v := 24627848) (x := 24627848) (List.mem_cons_of_mem _ (iw28 _ (List.mem_of_getElem? (i := 20) rfl))) (by decide +kernel) dX8_report_97 ?_
            refine z_callV (pc := 100) (kc := kX8_saysWord) (n := 1) (pl := 39) (ci := 7) (C := RX8) (As := [AL 24627848]) (stk := []) ct_X8_saysWord (gdV rfl rfl (iw42 _ (List.mem_of_getElem? (i := 16) rfl)) (iw42 _ (List.mem_of_getElem? (i := 17) rfl)) (iw42 _ (List.mem_of_getElem? (i := 18) rfl)) (iw1 _ (List.mem_of_getElem? (i := 5) rfl)) (iw42 _ (List.mem_of_getElem? (i := 19) rfl))) rfl ⟨rfl, rfl⟩ (by decide +kernel) ⟨by decide, by decide⟩ (by decide) rfl rfl dX8_report_100 rfl rfl (Nat.le_of_ble_eq_true rfl) ?_
            refine ⟨_, (((((repB (hi 40) k.toNat) ++ (numB (nO (hi 40) k) ++ [32])) ++ (wdB 215533 7 ++ [32])) ++ (numB (bO (hi 40) k) ++ [32])) ++ (wdB 494 7 ++ [32])), rfl, ⟨plh32, by omega, by unfold isWd; omega⟩, fun h38 eh38 => ?_⟩
            have frh38 : Fr [39, 53] hi h38 := (Fr.call frh32 eh38.1 (by decide))
            have ff39h38 : FF 39 [0, 32] hi h38 := FF.call ff39h32 (eh38.2.1) (by decide)
            have plh38 := eh38.2.2.1
            have pqh38 := eh38.2.2.2
            refine z_aload_n (pc := 103) (x := 40) dX8_report_103 rfl 1 rfl ?_
            refine z_aload_n (pc := 104) (x := 40) dX8_report_104 rfl 1 rfl ?_
            refine z_iload_n (pc := 105) dX8_report_105 rfl 0 rfl ?_
            refine z_iconst (pc := 106) (v := 3) dX8_report_106 rfl ?_
            refine z_callV (pc := 107) (kc := kX8_its) (n := 2) (pl := 39) (ci := 7) (C := RX8) (As := [AI k, AI 3]) (stk := [AR 40]) ct_X8_its (gdV rfl rfl (iw13 _ (List.mem_of_getElem? (i := 0) rfl)) (iw13 _ (List.mem_of_getElem? (i := 1) rfl)) (iw13 _ (List.mem_of_getElem? (i := 2) rfl)) (iw1 _ (List.mem_of_getElem? (i := 5) rfl)) (iw13 _ (List.mem_of_getElem? (i := 3) rfl))) rfl ⟨rfl, rfl⟩ (by decide +kernel) ⟨by decide, by decide⟩ (by decide) rfl rfl dX8_report_107 rfl rfl (Nat.le_of_ble_eq_true rfl) ?_
            refine ⟨_, _, rfl, ⟨by omega, by decide, by decide⟩, fun v39 ev39 => ?_⟩
            try rw [(eh38.1 40 (by decide) : h38 40 = h32 40), (eh32.1 40 (by decide) : h32 40 = h15 40), (eh15.1 40 (by decide) : h15 40 = h13 40), (eh13.1 40 (by decide) : h13 40 = h12 40), (eh12.1 40 (by decide) : h12 40 = hk 40), (frlhk 40 (by decide) : hk 40 = hi 40)] at ev39
            replace ev39 : v39 = wO (hi 40) k ∧ inR v39 := ev39
            refine z_callV (pc := 110) (kc := kX8_saysNumber) (n := 1) (pl := 39) (ci := 7) (C := RX8) (As := [AI v39]) (stk := []) ct_X8_saysNumber (gdV rfl rfl (iw42 _ (List.mem_of_getElem? (i := 8) rfl)) (iw42 _ (List.mem_of_getElem? (i := 9) rfl)) (iw42 _ (List.mem_of_getElem? (i := 10) rfl)) (iw1 _ (List.mem_of_getElem? (i := 5) rfl)) (iw42 _ (List.mem_of_getElem? (i := 11) rfl))) rfl ⟨rfl, rfl⟩ (by decide +kernel) ⟨by decide, by decide⟩ (by decide) rfl rfl dX8_report_110 rfl rfl (Nat.le_of_ble_eq_true rfl) ?_
            refine ⟨_, ((((((repB (hi 40) k.toNat) ++ (numB (nO (hi 40) k) ++ [32])) ++ (wdB 215533 7 ++ [32])) ++ (numB (bO (hi 40) k) ++ [32])) ++ (wdB 494 7 ++ [32])) ++ (wdB 24627848 7 ++ [32])), rfl, ⟨plh38, by omega, by omega⟩, fun h40 eh40 => ?_⟩
            have frh40 : Fr [39, 53] hi h40 := (Fr.call frh38 eh40.1 (by decide))
            have ff39h40 : FF 39 [0, 32] hi h40 := FF.call ff39h38 (eh40.2.1) (by decide)
            rw [show v39 = wO (hi 40) k by omega] at eh40
            have plh40 := eh40.2.2.1
            have pqh40 := eh40.2.2.2
            refine z_aload_n (pc := 113) (x := 40) dX8_report_113 rfl 1 rfl ?_
            refine z_bipush (pc := 114) (v := 59) dX8_report_114 (by decide +kernel) ?_
            refine z_callV (pc := 116) (kc := kX8_says) (n := 1) (pl := 39) (ci := 7) (C := RX8) (As := [AI 59]) (stk := []) ct_X8_says (gdV rfl rfl (iw42 _ (List.mem_of_getElem? (i := 12) rfl)) (iw42 _ (List.mem_of_getElem? (i := 13) rfl)) (iw42 _ (List.mem_of_getElem? (i := 14) rfl)) (iw1 _ (List.mem_of_getElem? (i := 5) rfl)) (iw42 _ (List.mem_of_getElem? (i := 15) rfl))) rfl ⟨rfl, rfl⟩ (by decide +kernel) ⟨by decide, by decide⟩ (by decide) rfl rfl dX8_report_116 rfl rfl (Nat.le_of_ble_eq_true rfl) ?_
            refine ⟨_, (((((((repB (hi 40) k.toNat) ++ (numB (nO (hi 40) k) ++ [32])) ++ (wdB 215533 7 ++ [32])) ++ (numB (bO (hi 40) k) ++ [32])) ++ (wdB 494 7 ++ [32])) ++ (wdB 24627848 7 ++ [32])) ++ (numB (wO (hi 40) k) ++ [32])), rfl, ⟨plh40, by omega, ⟨by decide, by decide⟩⟩, fun h41 eh41 => ?_⟩
            have frh41 : Fr [39, 53] hi h41 := (Fr.call frh40 eh41.1 (by decide))
            have ff39h41 : FF 39 [0, 32] hi h41 := FF.call ff39h40 (eh41.2.1) (by decide)
            have plh41 := eh41.2.2.1
            have pqh41 := eh41.2.2.2
            refine z_aload_n (pc := 119) (x := 40) dX8_report_119 rfl 1 rfl ?_
            refine z_bipush (pc := 120) (v := 32) dX8_report_120 (by decide +kernel) ?_
            refine z_callV (pc := 122) (kc := kX8_says) (n := 1) (pl := 39) (ci := 7) (C := RX8) (As := [AI 32]) (stk := []) ct_X8_says (gdV rfl rfl (iw42 _ (List.mem_of_getElem? (i := 12) rfl)) (iw42 _ (List.mem_of_getElem? (i := 13) rfl)) (iw42 _ (List.mem_of_getElem? (i := 14) rfl)) (iw1 _ (List.mem_of_getElem? (i := 5) rfl)) (iw42 _ (List.mem_of_getElem? (i := 15) rfl))) rfl ⟨rfl, rfl⟩ (by decide +kernel) ⟨by decide, by decide⟩ (by decide) rfl rfl dX8_report_122 rfl rfl (Nat.le_of_ble_eq_true rfl) ?_
            refine ⟨_, ((((((((repB (hi 40) k.toNat) ++ (numB (nO (hi 40) k) ++ [32])) ++ (wdB 215533 7 ++ [32])) ++ (numB (bO (hi 40) k) ++ [32])) ++ (wdB 494 7 ++ [32])) ++ (wdB 24627848 7 ++ [32])) ++ (numB (wO (hi 40) k) ++ [32])) ++ [59]), rfl, ⟨plh41, by omega, ⟨by decide, by decide⟩⟩, fun h42 eh42 => ?_⟩
            have frh42 : Fr [39, 53] hi h42 := (Fr.call frh41 eh42.1 (by decide))
            have ff39h42 : FF 39 [0, 32] hi h42 := FF.call ff39h41 (eh42.2.1) (by decide)
            have plh42 := eh42.2.2.1
            have pqh42 := eh42.2.2.2
            refine z_iinc (pc := 125) (j := 0) (w := fun q => (2, AI q) :: [(0, AR 40), (1, AI x)]) dX8_report_125 rfl (by decide) (fun _ => rfl) (fun v43 ev43 => ?_)
            refine z_goto (pc := 128) (tgt := 12) dX8_report_128 (by decide) ?_
            exact ih12 v43 h42 (by omega) (⟨(plh42.cast (lifeM_41 (by omega) (by omega))).cast (rep_step (by omega) (by omega)), by omega⟩) (by rw [(by rw [(eh42.2.1 0 (by decide) : h42 39 0 = h41 39 0), (eh41.2.1 0 (by decide) : h41 39 0 = h40 39 0), (eh40.2.1 0 (by decide) : h40 39 0 = h38 39 0), (eh38.2.1 0 (by decide) : h38 39 0 = h32 39 0), (eh32.2.1 0 (by decide) : h32 39 0 = h15 39 0), (eh15.2.1 0 (by decide) : h15 39 0 = h13 39 0), (eh13.2.1 0 (by decide) : h13 39 0 = h12 39 0), (eh12.2.1 0 (by decide) : h12 39 0 = hk 39 0)] : h42 39 0 = hk 39 0)]; exact i2) (frh42) (ff39h42) (by omega)
  exact J12 _ 0 h2 (by omega) (⟨PL.nil (by rw [(by rw [eh2]; rfl : h2 39 32 = 0)] : h2 39 32 = 0), by rw [(by rw [(by rw [eh2]; rfl : h2 39 32 = 0)] : h2 39 32 = 0)]; decide⟩) ((by rw [(by rw [eh2]; rfl : h2 39 0 = h1 39 0), (by rw [eh1]; rfl : h1 39 0 = 0)] : h2 39 0 = 0)) (frh2) (ff39h2) (Nat.lt_succ_self _)

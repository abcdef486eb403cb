noncomputable def lsF (f : Nat → Int) (n h : Int) : Int := Classical.epsilon (fun v => ∃ k, Fst (fun z => 0 ≤ nO f z ∧ al f z h) n k ∧ ((k < 0 ∧ v = -1) ∨ (0 ≤ k ∧ v = nO f k)))
noncomputable def grF (f : Nat → Int) (n h : Int) : Int := Classical.epsilon (fun v => ∃ k, Lst (fun z => nO f z ≤ 999 ∧ al f z h) n k ∧ ((k < 0 ∧ v = -1) ∨ (0 ≤ k ∧ v = nO f k)))
theorem lsF_eq {f : Nat → Int} {n h v : Int} (q : ∃ k, Fst (fun z => 0 ≤ nO f z ∧ al f z h) n k ∧ ((k < 0 ∧ v = -1) ∨ (0 ≤ k ∧ v = nO f k))) : v = lsF f n h := by
  have e : ∃ k, Fst (fun z => 0 ≤ nO f z ∧ al f z h) n k ∧ ((k < 0 ∧ lsF f n h = -1) ∨ (0 ≤ k ∧ lsF f n h = nO f k)) := Classical.epsilon_spec (p := fun v => ∃ k, Fst (fun z => 0 ≤ nO f z ∧ al f z h) n k ∧ ((k < 0 ∧ v = -1) ∨ (0 ≤ k ∧ v = nO f k))) ⟨v, q⟩
  obtain ⟨k, a, b⟩ := q
  obtain ⟨l, c, d⟩ := e
  have kl := a.uniq c
  subst kl
  rcases b with ⟨b1, b2⟩ | ⟨b1, b2⟩ <;> rcases d with ⟨d1, d2⟩ | ⟨d1, d2⟩ <;> omega
theorem grF_eq {f : Nat → Int} {n h v : Int} (q : ∃ k, Lst (fun z => nO f z ≤ 999 ∧ al f z h) n k ∧ ((k < 0 ∧ v = -1) ∨ (0 ≤ k ∧ v = nO f k))) : v = grF f n h := by
  have e : ∃ k, Lst (fun z => nO f z ≤ 999 ∧ al f z h) n k ∧ ((k < 0 ∧ grF f n h = -1) ∨ (0 ≤ k ∧ grF f n h = nO f k)) := Classical.epsilon_spec (p := fun v => ∃ k, Lst (fun z => nO f z ≤ 999 ∧ al f z h) n k ∧ ((k < 0 ∧ v = -1) ∨ (0 ≤ k ∧ v = nO f k))) ⟨v, q⟩
  obtain ⟨k, a, b⟩ := q
  obtain ⟨l, c, d⟩ := e
  have kl := a.uniq c
  subst kl
  rcases b with ⟨b1, b2⟩ | ⟨b1, b2⟩ <;> rcases d with ⟨d1, d2⟩ | ⟨d1, d2⟩ <;> omega
/-- the fields of a life, of an hour -/
def lifeF (f : Nat → Int) (k : Int) : Nat → Int := fun j => if j = 0 then nO f k else if j = 1 then bO f k else if j = 2 then dO f k else if j = 3 then dO f k - bO f k else if j = 4 then wO f k else pcs (bO f k) (dO f k)
noncomputable def hourF (f : Nat → Int) (n h : Int) : Nat → Int := fun j => if j = 0 then h else if j = 1 then cntA f n h else if j = 2 then worA f n h else if j = 3 then lsF f n h else grF f n h
/-- (this row, the longest) -/
def rwL (x : Int → Int) : Nat → Int × Int
  | 0 => (0, 0)
  | n + 1 => (if x n = 1 then (rwL x n).1 + 1 else 0, if (rwL x n).2 < (if x n = 1 then (rwL x n).1 + 1 else 0) then (if x n = 1 then (rwL x n).1 + 1 else 0) else (rwL x n).2)
theorem rwL_step {x : Int → Int} {k k' r l r' l' : Int} (h0 : 0 ≤ k) (hk : k' = k + 1) (h : (r, l) = rwL x k.toNat) (hr : r' = if x k = 1 then r + 1 else 0) (hl : l' = if l < r' then r' else l) : (r', l') = rwL x k'.toNat := by
  obtain ⟨n, rfl⟩ : ∃ n : Nat, k = n := ⟨k.toNat, by omega⟩
  subst hk
  rw [show ((n : Int) + 1).toNat = n + 1 by omega]
  rw [Int.toNat_natCast] at h
  have h1 : (rwL x n).1 = r := by rw [← h]
  have h2 : (rwL x n).2 = l := by rw [← h]
  show _ = (if x n = 1 then (rwL x n).1 + 1 else 0, if (rwL x n).2 < (if x n = 1 then (rwL x n).1 + 1 else 0) then (if x n = 1 then (rwL x n).1 + 1 else 0) else (rwL x n).2)
  rw [h1, h2, ← hr, ← hl]
noncomputable def ansF (S : Nat → Int) (g : Ex) (f : Nat → Int) (n : Int) : Int := if S 0 = 23 then sm (fun z => if g (lifeF f z) = 1 then (if (0 : Int) = 1 then wO f z else 1) else 0) n.toNat else if S 0 = 34 then sm (fun z => if g (lifeF f z) = 1 then (if (1 : Int) = 1 then wO f z else 1) else 0) n.toNat else if S 0 = 24 then sm (fun h => if g (hourF f n h) = 1 then 1 else 0) 64 else (rwL (fun h => g (hourF f n h)) 64).2
def FBx (hi : HI) : Prop := ∀ j : Nat, j < 6 → -4000 ≤ hi 36 j ∧ hi 36 j ≤ 4000
theorem six {P : Nat → Prop} (h0 : P 0) (h1 : P 1) (h2 : P 2) (h3 : P 3) (h4 : P 4) (h5 : P 5) : ∀ j : Nat, j < 6 → P j := fun j hj => by
  rcases (show j = 0 ∨ j = 1 ∨ j = 2 ∨ j = 3 ∨ j = 4 ∨ j = 5 by omega) with e | e | e | e | e | e <;> subst e <;> assumption
theorem five {P : Nat → Prop} (h0 : P 0) (h1 : P 1) (h2 : P 2) (h3 : P 3) (h4 : P 4) : ∀ j : Nat, j < 5 → P j := fun j hj => by
  rcases (show j = 0 ∨ j = 1 ∨ j = 2 ∨ j = 3 ∨ j = 4 by omega) with e | e | e | e | e <;> subst e <;> assumption
theorem TE.oth {hi h2 : HI} {S P V : Nat → Int} {m q : Nat} {f : Nat → Int} (h : TE hi S P V m) (e : h2 = hput hi q f) (hq : 29 ≠ q ∧ 31 ≠ q ∧ 32 ≠ q ∧ 33 ≠ q) : TE h2 S P V m := h.kp (by rw [e, hput_ne _ _ hq.1]) (by rw [e, hput_ne _ _ hq.1]) (by rw [e, hput_ne _ _ hq.2.1]) (by rw [e, hput_ne _ _ hq.2.2.1]) (by rw [e, hput_ne _ _ hq.2.2.2])
theorem TE.fr {hi h2 : HI} {S P V : Nat → Int} {m : Nat} {M : List Nat} (h : TE hi S P V m) (e : Fr M hi h2) (hM : 29 ∉ M ∧ 31 ∉ M ∧ 32 ∉ M ∧ 33 ∉ M) : TE h2 S P V m := h.kp (by rw [e _ hM.1]) (by rw [e _ hM.1]) (e _ hM.2.1) (e _ hM.2.2.1) (e _ hM.2.2.2)
theorem tell_ts {hi h2 : HI} {S P V : Nat → Int} {m : Nat} {x : Int} (h : TE hi S P V m) (f : Fr [29, 36] hi h2) (e : h2 29 = updI (hi 29) 6 x) (hx : x = 2) (hm : 2 ≤ m) : TS h2 S P V m 2 := by
  refine ⟨h.1.kp ?_ (f 31 (by decide)) (f 32 (by decide)) (f 33 (by decide)), hm, ?_, ?_⟩
  · rw [e, updI_ne _ _ (by decide)]
  · rw [e, updI_same, hx]; rfl
  · rw [e, updI_ne _ _ (by decide)]; exact h.2
theorem qF_inr {S P V : Nat → Int} {m : Nat} {g : Ex} (h : qF S P V = .inr g) (hm : S m = 0) : res (ohF S) S P V (0, 2, [], []) = .inr g ∧ 2 ≤ m := by
  unfold qF at h
  split at h
  · rename_i h0
    split at h
    · rename_i h1
      refine ⟨h, ?_⟩
      rcases Nat.lt_or_ge m 2 with q | q
      · rcases (show m = 0 ∨ m = 1 by omega) with z | z <;> subst z <;> omega
      · exact q
    · cases h
  · cases h
theorem Lst.posL {P : Int → Prop} {n v : Int} (h : Lst P n v) (h0 : 0 ≤ v) : v < n := by
  rcases h with ⟨a1, a2, a3, a4⟩ | ⟨a1, a2⟩ <;> omega

abbrev kX4_tellLife : Kd := (cX4_tellLife, .code yX4_tellLife cX4_tellLife 5 none :: wsL_law0, rmL 2, RX4, none, 5)
theorem ct_X4_tellLife : Ct kX4_tellLife yX4_tellLife (fun a hi Q => ∃ k : Int, a = [AR 36, AR 2, AI k] ∧ (RI (hi 2) (hi 2 1) ∧ (0 ≤ k ∧ k < hi 2 1) ∧ inR (hi 35 4)) ∧ ∀ h2 : HI, (Fr [29, 36] hi h2 ∧ FF 29 [6] hi h2 ∧ (h2 29 = updI (hi 29) 6 (hi 35 4) ∧ (∀ j : Nat, j < 6 → h2 36 j = lifeF (hi 2) k j) ∧ FBx h2)) → Q AU h2) := by
  refine Ct.of (ws' := _) (by decide +kernel) rfl rfl ?_
  intro a hi Q hT
  obtain ⟨k, rfl, hpre, hQ⟩ := hT
  refine ⟨Nat.le_of_ble_eq_true rfl, ?_⟩
  show Z kX4_tellLife Q 0 [(0, AR 36), (1, AR 2), (2, AI k)] [] hi
  have rk := toRng hpre.1 hpre.2.1
  have n40 := hpre.1.1
  have r4 := hpre.2.2
  refine z_aload_n (pc := 0) (x := 2) dX4_tellLife_0 rfl 1 rfl ?_
  refine z_ifnonnull (pc := 1) (tgt := 5) dX4_tellLife_1 (by decide) (by decide) ?_
  refine z_aload_n (pc := 5) (x := 2) dX4_tellLife_5 rfl 1 rfl ?_
  refine z_iload_n (pc := 6) dX4_tellLife_6 rfl 2 rfl ?_
  refine z_callV (pc := 7) (kc := kX1_birthOf) (n := 1) (pl := 1) (ci := 1) (C := RX1) (As := [AI k]) (stk := []) ct_X1_birthOf (gdV rfl rfl (iw35 _ (List.mem_of_getElem? (i := 9) rfl)) (iw7 _ (List.mem_of_getElem? (i := 10) rfl)) (iw7 _ (List.mem_of_getElem? (i := 11) rfl)) (iw1 _ (List.mem_of_getElem? (i := 15) rfl)) (iw7 _ (List.mem_of_getElem? (i := 12) rfl))) rfl ⟨rfl, rfl⟩ (by decide +kernel) ⟨by decide, by decide⟩ (by decide) rfl rfl dX4_tellLife_7 rfl rfl (Nat.le_of_ble_eq_true rfl) ?_
  refine ⟨_, rfl, by omega, fun v1 ev1 => ?_⟩
  refine z_istore_n (pc := 10) (lv' := [(3, AI v1), (0, AR 36), (1, AR 2), (2, AI k)]) dX4_tellLife_10 rfl (by decide) rfl ?_
  refine z_aload_n (pc := 11) (x := 2) dX4_tellLife_11 rfl 2 rfl ?_
  refine z_iload_n (pc := 12) dX4_tellLife_12 rfl 3 rfl ?_
  refine z_callV (pc := 13) (kc := kX1_deathOf) (n := 1) (pl := 1) (ci := 1) (C := RX1) (As := [AI k]) (stk := []) ct_X1_deathOf (gdV rfl rfl (iw35 _ (List.mem_of_getElem? (i := 10) rfl)) (iw7 _ (List.mem_of_getElem? (i := 14) rfl)) (iw7 _ (List.mem_of_getElem? (i := 15) rfl)) (iw1 _ (List.mem_of_getElem? (i := 15) rfl)) (iw7 _ (List.mem_of_getElem? (i := 16) rfl))) rfl ⟨rfl, rfl⟩ (by decide +kernel) ⟨by decide, by decide⟩ (by decide) rfl rfl dX4_tellLife_13 rfl rfl (Nat.le_of_ble_eq_true rfl) ?_
  refine ⟨_, rfl, by omega, fun v2 ev2 => ?_⟩
  refine z_istore (pc := 16) (lv' := [(4, AI v2), (3, AI v1), (0, AR 36), (1, AR 2), (2, AI k)]) dX4_tellLife_16 (by decide) rfl ?_
  refine z_aload_n (pc := 18) (x := 36) dX4_tellLife_18 rfl 2 rfl ?_
  refine z_getR (pc := 19) (pl := 35) (f := 1) (ci := 4) (C := RX4) (T := TX4) (N := 5) hu_X4 (by decide) rfl rfl (by decide) rfl (List.mem_cons_of_mem _ (iw4 _ (List.mem_of_getElem? (i := 14) rfl))) rfl dX4_tellLife_19 ?_
  refine z_iconst (pc := 22) (v := 0) dX4_tellLife_22 rfl ?_
  refine z_aload_n (pc := 23) (x := 2) dX4_tellLife_23 rfl 3 rfl ?_
  refine z_iload_n (pc := 24) dX4_tellLife_24 rfl 4 rfl ?_
  refine z_callV (pc := 25) (kc := kX1_numberOf) (n := 1) (pl := 1) (ci := 1) (C := RX1) (As := [AI k]) (stk := [AI 0, AR 37]) ct_X1_numberOf (gdV rfl rfl (iw34 _ (List.mem_of_getElem? (i := 23) rfl)) (iw7 _ (List.mem_of_getElem? (i := 6) rfl)) (iw7 _ (List.mem_of_getElem? (i := 7) rfl)) (iw1 _ (List.mem_of_getElem? (i := 15) rfl)) (iw7 _ (List.mem_of_getElem? (i := 8) rfl))) rfl ⟨rfl, rfl⟩ (by decide +kernel) ⟨by decide, by decide⟩ (by decide) rfl rfl dX4_tellLife_25 rfl rfl (Nat.le_of_ble_eq_true rfl) ?_
  refine ⟨_, rfl, by omega, fun v3 ev3 => ?_⟩
  refine z_iast (pc := 28) (pl := 36) (by decide) rfl (by decide) (by decide) (by decide) ⟨by omega, by omega⟩ dX4_tellLife_28 (fun h4 eh4 => ?_)
  replace eh4 : h4 = hput hi 36 (updI (hi 36) 0 v3) := eh4
  have frh4 : Fr [29, 36] hi h4 := (Fr.put (Fr.rf) eh4 (by decide))
  have ff29h4 : FF 29 [6] hi h4 := FF.oth (FF.rf) eh4 (by decide)
  refine z_aload_n (pc := 29) (x := 36) dX4_tellLife_29 rfl 2 rfl ?_
  refine z_getR (pc := 30) (pl := 35) (f := 1) (ci := 4) (C := RX4) (T := TX4) (N := 5) hu_X4 (by decide) rfl rfl (by decide) rfl (List.mem_cons_of_mem _ (iw4 _ (List.mem_of_getElem? (i := 14) rfl))) rfl dX4_tellLife_30 ?_
  refine z_iconst (pc := 33) (v := 1) dX4_tellLife_33 rfl ?_
  refine z_iload_n (pc := 34) dX4_tellLife_34 rfl 1 rfl ?_
  refine z_iast (pc := 35) (pl := 36) (by decide) rfl (by decide) (by decide) (by decide) ⟨by omega, by omega⟩ dX4_tellLife_35 (fun h5 eh5 => ?_)
  replace eh5 : h5 = hput h4 36 (updI (h4 36) 1 v1) := eh5
  have frh5 : Fr [29, 36] hi h5 := (Fr.put frh4 eh5 (by decide))
  have ff29h5 : FF 29 [6] hi h5 := FF.oth ff29h4 eh5 (by decide)
  refine z_aload_n (pc := 36) (x := 36) dX4_tellLife_36 rfl 2 rfl ?_
  refine z_getR (pc := 37) (pl := 35) (f := 1) (ci := 4) (C := RX4) (T := TX4) (N := 5) hu_X4 (by decide) rfl rfl (by decide) rfl (List.mem_cons_of_mem _ (iw4 _ (List.mem_of_getElem? (i := 14) rfl))) rfl dX4_tellLife_37 ?_
  refine z_iconst (pc := 40) (v := 2) dX4_tellLife_40 rfl ?_
  refine z_iload (pc := 41) dX4_tellLife_41 0 rfl ?_
  refine z_iast (pc := 43) (pl := 36) (by decide) rfl (by decide) (by decide) (by decide) ⟨by omega, by omega⟩ dX4_tellLife_43 (fun h6 eh6 => ?_)
  replace eh6 : h6 = hput h5 36 (updI (h5 36) 2 v2) := eh6
  have frh6 : Fr [29, 36] hi h6 := (Fr.put frh5 eh6 (by decide))
  have ff29h6 : FF 29 [6] hi h6 := FF.oth ff29h5 eh6 (by decide)
  refine z_aload_n (pc := 44) (x := 36) dX4_tellLife_44 rfl 2 rfl ?_
  refine z_getR (pc := 45) (pl := 35) (f := 1) (ci := 4) (C := RX4) (T := TX4) (N := 5) hu_X4 (by decide) rfl rfl (by decide) rfl (List.mem_cons_of_mem _ (iw4 _ (List.mem_of_getElem? (i := 14) rfl))) rfl dX4_tellLife_45 ?_
  refine z_iconst (pc := 48) (v := 3) dX4_tellLife_48 rfl ?_
  refine z_iload (pc := 49) dX4_tellLife_49 0 rfl ?_
  refine z_iload_n (pc := 51) dX4_tellLife_51 rfl 1 rfl ?_
  refine z_isub (pc := 52) dX4_tellLife_52 (fun v7 ev7 => ?_)
  refine z_iast (pc := 53) (pl := 36) (by decide) rfl (by decide) (by decide) (by decide) ⟨by omega, by omega⟩ dX4_tellLife_53 (fun h8 eh8 => ?_)
  replace eh8 : h8 = hput h6 36 (updI (h6 36) 3 v7) := eh8
  have frh8 : Fr [29, 36] hi h8 := (Fr.put frh6 eh8 (by decide))
  have ff29h8 : FF 29 [6] hi h8 := FF.oth ff29h6 eh8 (by decide)
  refine z_aload_n (pc := 54) (x := 36) dX4_tellLife_54 rfl 2 rfl ?_
  refine z_getR (pc := 55) (pl := 35) (f := 1) (ci := 4) (C := RX4) (T := TX4) (N := 5) hu_X4 (by decide) rfl rfl (by decide) rfl (List.mem_cons_of_mem _ (iw4 _ (List.mem_of_getElem? (i := 14) rfl))) rfl dX4_tellLife_55 ?_
  refine z_iconst (pc := 58) (v := 4) dX4_tellLife_58 rfl ?_
  refine z_aload_n (pc := 59) (x := 2) dX4_tellLife_59 rfl 3 rfl ?_
  refine z_iload_n (pc := 60) dX4_tellLife_60 rfl 4 rfl ?_
  refine z_callV (pc := 61) (kc := kX1_worthOf) (n := 1) (pl := 1) (ci := 1) (C := RX1) (As := [AI k]) (stk := [AI 4, AR 37]) ct_X1_worthOf (gdV rfl rfl (iw35 _ (List.mem_of_getElem? (i := 11) rfl)) (iw12 _ (List.mem_of_getElem? (i := 9) rfl)) (iw12 _ (List.mem_of_getElem? (i := 10) rfl)) (iw1 _ (List.mem_of_getElem? (i := 15) rfl)) (iw12 _ (List.mem_of_getElem? (i := 11) rfl))) rfl ⟨rfl, rfl⟩ (by decide +kernel) ⟨by decide, by decide⟩ (by decide) rfl rfl dX4_tellLife_61 rfl rfl (Nat.le_of_ble_eq_true rfl) ?_
  refine ⟨_, rfl, by omega, fun v9 ev9 => ?_⟩
  try rw [(by rw [eh8]; rfl : h8 2 = h6 2), (by rw [eh6]; rfl : h6 2 = h5 2), (by rw [eh5]; rfl : h5 2 = h4 2), (by rw [eh4]; rfl : h4 2 = hi 2)] at ev9
  refine z_iast (pc := 64) (pl := 36) (by decide) rfl (by decide) (by decide) (by decide) ⟨by omega, by omega⟩ dX4_tellLife_64 (fun h10 eh10 => ?_)
  replace eh10 : h10 = hput h8 36 (updI (h8 36) 4 v9) := eh10
  have frh10 : Fr [29, 36] hi h10 := (Fr.put frh8 eh10 (by decide))
  have ff29h10 : FF 29 [6] hi h10 := FF.oth ff29h8 eh10 (by decide)
  refine z_aload_n (pc := 65) (x := 36) dX4_tellLife_65 rfl 2 rfl ?_
  refine z_getR (pc := 66) (pl := 35) (f := 1) (ci := 4) (C := RX4) (T := TX4) (N := 5) hu_X4 (by decide) rfl rfl (by decide) rfl (List.mem_cons_of_mem _ (iw4 _ (List.mem_of_getElem? (i := 14) rfl))) rfl dX4_tellLife_66 ?_
  refine z_iconst (pc := 69) (v := 5) dX4_tellLife_69 rfl ?_
  refine z_iload_n (pc := 70) dX4_tellLife_70 rfl 1 rfl ?_
  refine z_iload (pc := 71) dX4_tellLife_71 0 rfl ?_
  refine z_callSN (pc := 73) (kc := kX7_piecesOf) (n := 2) (As := [AI v1, AI v2]) (stk := [AI 5, AR 37]) ct_X7_piecesOf (List.mem_of_getElem? (i := 4) rfl) (gdN rfl rfl (iw35 _ (List.mem_of_getElem? (i := 13) rfl))) (List.mem_cons_of_mem _ (iw35 _ (List.mem_of_getElem? (i := 12) rfl))) (List.mem_cons_of_mem _ (iw1 _ (List.mem_of_getElem? (i := 2) rfl))) rfl ⟨rfl, rfl⟩ (by decide +kernel) ⟨by decide, by decide⟩ dX4_tellLife_73 rfl rfl (Nat.le_of_ble_eq_true rfl) ?_
  refine ⟨_, _, rfl, by omega, fun v11 ev11 => ?_⟩
  rw [show v1 = bO (hi 2) k by omega, show v2 = dO (hi 2) k by omega] at ev11
  refine z_iast (pc := 76) (pl := 36) (by decide) rfl (by decide) (by decide) (by decide) ⟨by omega, by omega⟩ dX4_tellLife_76 (fun h12 eh12 => ?_)
  replace eh12 : h12 = hput h10 36 (updI (h10 36) 5 v11) := eh12
  have frh12 : Fr [29, 36] hi h12 := (Fr.put frh10 eh12 (by decide))
  have ff29h12 : FF 29 [6] hi h12 := FF.oth ff29h10 eh12 (by decide)
  refine z_aload_n (pc := 77) (x := 36) dX4_tellLife_77 rfl 2 rfl ?_
  refine z_getR (pc := 78) (pl := 35) (f := 0) (ci := 4) (C := RX4) (T := TX4) (N := 5) hu_X4 (by decide) rfl rfl (by decide) rfl (List.mem_cons_of_mem _ (iw4 _ (List.mem_of_getElem? (i := 19) rfl))) rfl dX4_tellLife_78 ?_
  refine z_aload_n (pc := 81) (x := 36) dX4_tellLife_81 rfl 2 rfl ?_
  refine z_getI (pc := 82) (pl := 35) (f := 4) (ci := 4) (C := RX4) (T := TX4) (N := 5) hu_X4 (by decide) rfl rfl (by decide) rfl (List.mem_cons_of_mem _ (iw4 _ (List.mem_of_getElem? (i := 18) rfl))) rfl (by decide) dX4_tellLife_82 (fun v13 ev13 rv13 => ?_)
  rw [(by rw [eh12]; rfl : h12 35 4 = h10 35 4), (by rw [eh10]; rfl : h10 35 4 = h8 35 4), (by rw [eh8]; rfl : h8 35 4 = h6 35 4), (by rw [eh6]; rfl : h6 35 4 = h5 35 4), (by rw [eh5]; rfl : h5 35 4 = h4 35 4), (by rw [eh4]; rfl : h4 35 4 = hi 35 4)] at ev13
  refine z_callV (pc := 85) (kc := kX6_goTo) (n := 1) (pl := 29) (ci := 5) (C := RX6) (As := [AI v13]) (stk := []) ct_X6_goTo2 (gdV rfl rfl (iw35 _ (List.mem_of_getElem? (i := 0) rfl)) (iw25 _ (List.mem_of_getElem? (i := 2) rfl)) (iw25 _ (List.mem_of_getElem? (i := 3) rfl)) (iw2 _ (List.mem_of_getElem? (i := 4) rfl)) (iw25 _ (List.mem_of_getElem? (i := 4) rfl))) rfl ⟨rfl, rfl⟩ (by decide +kernel) ⟨by decide, by decide⟩ (by decide) rfl rfl dX4_tellLife_85 rfl rfl (Nat.le_of_ble_eq_true rfl) ?_
  refine ⟨_, rfl, by omega, fun h14 eh14 => ?_⟩
  have frh14 : Fr [29, 36] hi h14 := (Fr.call frh12 eh14.1 (by decide))
  have ff29h14 : FF 29 [6] hi h14 := FF.call ff29h12 (eh14.2.1) (by decide)
  have w29 : h14 29 = updI (hi 29) 6 (hi 35 4) := by rw [eh14.2.2, hput_same, (by rw [(by rw [eh12]; rfl : h12 29 = h10 29), (by rw [eh10]; rfl : h10 29 = h8 29), (by rw [eh8]; rfl : h8 29 = h6 29), (by rw [eh6]; rfl : h6 29 = h5 29), (by rw [eh5]; rfl : h5 29 = h4 29), (by rw [eh4]; rfl : h4 29 = hi 29)] : h12 29 = hi 29)]; first | done | (congr 1 <;> omega)
  refine z_vret (pc := 88) rfl dX4_tellLife_88 ?_
  exact hQ h14 ⟨frh14, ff29h14, ⟨w29, six (P := fun j => h14 36 j = lifeF (hi 2) k j) (by rw [(by rw [(congrFun (eh14.1 36 (by decide)) 0 : h14 36 0 = h12 36 0), (by rw [eh12]; rfl : h12 36 0 = h10 36 0), (by rw [eh10]; rfl : h10 36 0 = h8 36 0), (by rw [eh8]; rfl : h8 36 0 = h6 36 0), (by rw [eh6]; rfl : h6 36 0 = h5 36 0), (by rw [eh5]; rfl : h5 36 0 = h4 36 0), (by rw [eh4]; rfl : h4 36 0 = v3)] : h14 36 0 = v3)]; show _ = nO (hi 2) k; omega) (by rw [(by rw [(congrFun (eh14.1 36 (by decide)) 1 : h14 36 1 = h12 36 1), (by rw [eh12]; rfl : h12 36 1 = h10 36 1), (by rw [eh10]; rfl : h10 36 1 = h8 36 1), (by rw [eh8]; rfl : h8 36 1 = h6 36 1), (by rw [eh6]; rfl : h6 36 1 = h5 36 1), (by rw [eh5]; rfl : h5 36 1 = v1)] : h14 36 1 = v1)]; show _ = bO (hi 2) k; omega) (by rw [(by rw [(congrFun (eh14.1 36 (by decide)) 2 : h14 36 2 = h12 36 2), (by rw [eh12]; rfl : h12 36 2 = h10 36 2), (by rw [eh10]; rfl : h10 36 2 = h8 36 2), (by rw [eh8]; rfl : h8 36 2 = h6 36 2), (by rw [eh6]; rfl : h6 36 2 = v2)] : h14 36 2 = v2)]; show _ = dO (hi 2) k; omega) (by rw [(by rw [(congrFun (eh14.1 36 (by decide)) 3 : h14 36 3 = h12 36 3), (by rw [eh12]; rfl : h12 36 3 = h10 36 3), (by rw [eh10]; rfl : h10 36 3 = h8 36 3), (by rw [eh8]; rfl : h8 36 3 = v7)] : h14 36 3 = v7)]; show _ = dO (hi 2) k - bO (hi 2) k; omega) (by rw [(by rw [(congrFun (eh14.1 36 (by decide)) 4 : h14 36 4 = h12 36 4), (by rw [eh12]; rfl : h12 36 4 = h10 36 4), (by rw [eh10]; rfl : h10 36 4 = v9)] : h14 36 4 = v9)]; show _ = wO (hi 2) k; omega) (by rw [(by rw [(congrFun (eh14.1 36 (by decide)) 5 : h14 36 5 = h12 36 5), (by rw [eh12]; rfl : h12 36 5 = v11)] : h14 36 5 = v11)]; show _ = pcs (bO (hi 2) k) (dO (hi 2) k); omega), six (P := fun j => -4000 ≤ h14 36 j ∧ h14 36 j ≤ 4000) (by rw [(by rw [(congrFun (eh14.1 36 (by decide)) 0 : h14 36 0 = h12 36 0), (by rw [eh12]; rfl : h12 36 0 = h10 36 0), (by rw [eh10]; rfl : h10 36 0 = h8 36 0), (by rw [eh8]; rfl : h8 36 0 = h6 36 0), (by rw [eh6]; rfl : h6 36 0 = h5 36 0), (by rw [eh5]; rfl : h5 36 0 = h4 36 0), (by rw [eh4]; rfl : h4 36 0 = v3)] : h14 36 0 = v3)]; omega) (by rw [(by rw [(congrFun (eh14.1 36 (by decide)) 1 : h14 36 1 = h12 36 1), (by rw [eh12]; rfl : h12 36 1 = h10 36 1), (by rw [eh10]; rfl : h10 36 1 = h8 36 1), (by rw [eh8]; rfl : h8 36 1 = h6 36 1), (by rw [eh6]; rfl : h6 36 1 = h5 36 1), (by rw [eh5]; rfl : h5 36 1 = v1)] : h14 36 1 = v1)]; omega) (by rw [(by rw [(congrFun (eh14.1 36 (by decide)) 2 : h14 36 2 = h12 36 2), (by rw [eh12]; rfl : h12 36 2 = h10 36 2), (by rw [eh10]; rfl : h10 36 2 = h8 36 2), (by rw [eh8]; rfl : h8 36 2 = h6 36 2), (by rw [eh6]; rfl : h6 36 2 = v2)] : h14 36 2 = v2)]; omega) (by rw [(by rw [(congrFun (eh14.1 36 (by decide)) 3 : h14 36 3 = h12 36 3), (by rw [eh12]; rfl : h12 36 3 = h10 36 3), (by rw [eh10]; rfl : h10 36 3 = h8 36 3), (by rw [eh8]; rfl : h8 36 3 = v7)] : h14 36 3 = v7)]; omega) (by rw [(by rw [(congrFun (eh14.1 36 (by decide)) 4 : h14 36 4 = h12 36 4), (by rw [eh12]; rfl : h12 36 4 = h10 36 4), (by rw [eh10]; rfl : h10 36 4 = v9)] : h14 36 4 = v9)]; omega) (by rw [(by rw [(congrFun (eh14.1 36 (by decide)) 5 : h14 36 5 = h12 36 5), (by rw [eh12]; rfl : h12 36 5 = v11)] : h14 36 5 = v11)]; omega)⟩⟩

abbrev kX4_tellHour : Kd := (cX4_tellHour, .code yX4_tellHour cX4_tellHour 5 none :: wsL_law0, rmL 4, RX4, none, 5)
theorem ct_X4_tellHour : Ct kX4_tellHour yX4_tellHour (fun a hi Q => ∃ h : Int, a = [AR 36, AR 2, AI h] ∧ (RI (hi 2) (hi 2 1) ∧ (0 ≤ h ∧ h < 64) ∧ inR (hi 35 4) ∧ FBx hi) ∧ ∀ h2 : HI, (Fr [29, 36] hi h2 ∧ FF 29 [6] hi h2 ∧ (h2 29 = updI (hi 29) 6 (hi 35 4) ∧ (∀ j : Nat, j < 5 → h2 36 j = hourF (hi 2) (hi 2 1) h j) ∧ FBx h2)) → Q AU h2) := by
  refine Ct.of (ws' := _) (by decide +kernel) rfl rfl ?_
  intro a hi Q hT
  obtain ⟨h, rfl, hpre, hQ⟩ := hT
  refine ⟨Nat.le_of_ble_eq_true rfl, ?_⟩
  show Z kX4_tellHour Q 0 [(0, AR 36), (1, AR 2), (2, AI h)] [] hi
  have n40 := hpre.1.1
  have r4 := hpre.2.2.1
  have f5 := hpre.2.2.2 5 (by decide)
  refine z_aload_n (pc := 0) (x := 2) dX4_tellHour_0 rfl 1 rfl ?_
  refine z_ifnonnull (pc := 1) (tgt := 5) dX4_tellHour_1 (by decide) (by decide) ?_
  refine z_aload_n (pc := 5) (x := 2) dX4_tellHour_5 rfl 1 rfl ?_
  refine z_iload_n (pc := 6) dX4_tellHour_6 rfl 2 rfl ?_
  refine z_iconst (pc := 7) (v := 0) dX4_tellHour_7 rfl ?_
  refine z_callV (pc := 8) (kc := kX1_firstAt) (n := 2) (pl := 1) (ci := 1) (C := RX1) (As := [AI h, AI 0]) (stk := []) ct_X1_firstAt (gdV rfl rfl (iw34 _ (List.mem_of_getElem? (i := 6) rfl)) (iw34 _ (List.mem_of_getElem? (i := 7) rfl)) (iw34 _ (List.mem_of_getElem? (i := 8) rfl)) (iw1 _ (List.mem_of_getElem? (i := 15) rfl)) (iw34 _ (List.mem_of_getElem? (i := 9) rfl))) rfl ⟨rfl, rfl⟩ (by decide +kernel) ⟨by decide, by decide⟩ (by decide) rfl rfl dX4_tellHour_8 rfl rfl (Nat.le_of_ble_eq_true rfl) ?_
  refine ⟨_, _, rfl, ⟨by omega, ⟨by omega, by omega⟩, ⟨by omega, by omega⟩⟩, fun v1 ev1 => ?_⟩
  have w8 := ev1
  have g8 := Fst.rng w8 n40
  refine z_istore_n (pc := 11) (lv' := [(3, AI v1), (0, AR 36), (1, AR 2), (2, AI h)]) dX4_tellHour_11 rfl (by decide) rfl ?_
  refine z_aload_n (pc := 12) (x := 2) dX4_tellHour_12 rfl 2 rfl ?_
  refine z_iload_n (pc := 13) dX4_tellHour_13 rfl 3 rfl ?_
  refine z_sipush (pc := 14) (v := 999) dX4_tellHour_14 (by decide +kernel) ?_
  refine z_callV (pc := 17) (kc := kX1_lastAt) (n := 2) (pl := 1) (ci := 1) (C := RX1) (As := [AI h, AI 999]) (stk := []) ct_X1_lastAt (gdV rfl rfl (iw34 _ (List.mem_of_getElem? (i := 10) rfl)) (iw34 _ (List.mem_of_getElem? (i := 11) rfl)) (iw34 _ (List.mem_of_getElem? (i := 12) rfl)) (iw1 _ (List.mem_of_getElem? (i := 15) rfl)) (iw34 _ (List.mem_of_getElem? (i := 13) rfl))) rfl ⟨rfl, rfl⟩ (by decide +kernel) ⟨by decide, by decide⟩ (by decide) rfl rfl dX4_tellHour_17 rfl rfl (Nat.le_of_ble_eq_true rfl) ?_
  refine ⟨_, _, rfl, ⟨by omega, ⟨by omega, by omega⟩, ⟨by omega, by omega⟩⟩, fun v2 ev2 => ?_⟩
  have w17 := ev2
  have g17 := Lst.rng w17 n40
  refine z_istore (pc := 20) (lv' := [(4, AI v2), (3, AI v1), (0, AR 36), (1, AR 2), (2, AI h)]) dX4_tellHour_20 (by decide) rfl ?_
  refine z_aload_n (pc := 22) (x := 36) dX4_tellHour_22 rfl 2 rfl ?_
  refine z_getR (pc := 23) (pl := 35) (f := 1) (ci := 4) (C := RX4) (T := TX4) (N := 5) hu_X4 (by decide) rfl rfl (by decide) rfl (List.mem_cons_of_mem _ (iw4 _ (List.mem_of_getElem? (i := 14) rfl))) rfl dX4_tellHour_23 ?_
  refine z_iconst (pc := 26) (v := 0) dX4_tellHour_26 rfl ?_
  refine z_iload_n (pc := 27) dX4_tellHour_27 rfl 4 rfl ?_
  refine z_iast (pc := 28) (pl := 36) (by decide) rfl (by decide) (by decide) (by decide) ⟨by omega, by omega⟩ dX4_tellHour_28 (fun h3 eh3 => ?_)
  replace eh3 : h3 = hput hi 36 (updI (hi 36) 0 h) := eh3
  have frh3 : Fr [29, 36] hi h3 := (Fr.put (Fr.rf) eh3 (by decide))
  have ff29h3 : FF 29 [6] hi h3 := FF.oth (FF.rf) eh3 (by decide)
  refine z_aload_n (pc := 29) (x := 36) dX4_tellHour_29 rfl 2 rfl ?_
  refine z_getR (pc := 30) (pl := 35) (f := 1) (ci := 4) (C := RX4) (T := TX4) (N := 5) hu_X4 (by decide) rfl rfl (by decide) rfl (List.mem_cons_of_mem _ (iw4 _ (List.mem_of_getElem? (i := 14) rfl))) rfl dX4_tellHour_30 ?_
  refine z_iconst (pc := 33) (v := 1) dX4_tellHour_33 rfl ?_
  refine z_aload_n (pc := 34) (x := 2) dX4_tellHour_34 rfl 3 rfl ?_
  refine z_iload_n (pc := 35) dX4_tellHour_35 rfl 4 rfl ?_
  refine z_callV (pc := 36) (kc := kX1_countAt) (n := 1) (pl := 1) (ci := 1) (C := RX1) (As := [AI h]) (stk := [AI 1, AR 37]) ct_X1_countAt (gdV rfl rfl (iw34 _ (List.mem_of_getElem? (i := 14) rfl)) (iw34 _ (List.mem_of_getElem? (i := 15) rfl)) (iw34 _ (List.mem_of_getElem? (i := 16) rfl)) (iw1 _ (List.mem_of_getElem? (i := 15) rfl)) (iw34 _ (List.mem_of_getElem? (i := 17) rfl))) rfl ⟨rfl, rfl⟩ (by decide +kernel) ⟨by decide, by decide⟩ (by decide) rfl rfl dX4_tellHour_36 rfl rfl (Nat.le_of_ble_eq_true rfl) ?_
  refine ⟨_, rfl, by (try rw [(by rw [eh3]; rfl : h3 2 = hi 2)]); exact ⟨by omega, ⟨by omega, by omega⟩⟩, fun v4 ev4 => ?_⟩
  try rw [(by rw [eh3]; rfl : h3 2 = hi 2)] at ev4
  have q36 := cnt_rng (h := h) hpre.1
  have w36 : v4 = cntA (hi 2) (hi 2 1) h := ev4
  rw [← ev4] at q36
  refine z_iast (pc := 39) (pl := 36) (by decide) rfl (by decide) (by decide) (by decide) ⟨by omega, by omega⟩ dX4_tellHour_39 (fun h5 eh5 => ?_)
  replace eh5 : h5 = hput h3 36 (updI (h3 36) 1 v4) := eh5
  have frh5 : Fr [29, 36] hi h5 := (Fr.put frh3 eh5 (by decide))
  have ff29h5 : FF 29 [6] hi h5 := FF.oth ff29h3 eh5 (by decide)
  refine z_aload_n (pc := 40) (x := 36) dX4_tellHour_40 rfl 2 rfl ?_
  refine z_getR (pc := 41) (pl := 35) (f := 1) (ci := 4) (C := RX4) (T := TX4) (N := 5) hu_X4 (by decide) rfl rfl (by decide) rfl (List.mem_cons_of_mem _ (iw4 _ (List.mem_of_getElem? (i := 14) rfl))) rfl dX4_tellHour_41 ?_
  refine z_iconst (pc := 44) (v := 2) dX4_tellHour_44 rfl ?_
  refine z_aload_n (pc := 45) (x := 2) dX4_tellHour_45 rfl 3 rfl ?_
  refine z_iload_n (pc := 46) dX4_tellHour_46 rfl 4 rfl ?_
  refine z_iconst (pc := 47) (v := 0) dX4_tellHour_47 rfl ?_
  refine z_sipush (pc := 48) (v := 999) dX4_tellHour_48 (by decide +kernel) ?_
  refine z_callV (pc := 51) (kc := kX1_worthsAt) (n := 3) (pl := 1) (ci := 1) (C := RX1) (As := [AI h, AI 0, AI 999]) (stk := [AI 2, AR 37]) ct_X1_worthsAt (gdV rfl rfl (iw34 _ (List.mem_of_getElem? (i := 18) rfl)) (iw34 _ (List.mem_of_getElem? (i := 19) rfl)) (iw34 _ (List.mem_of_getElem? (i := 20) rfl)) (iw1 _ (List.mem_of_getElem? (i := 15) rfl)) (iw34 _ (List.mem_of_getElem? (i := 21) rfl))) rfl ⟨rfl, rfl⟩ (by decide +kernel) ⟨by decide, by decide⟩ (by decide) rfl rfl dX4_tellHour_51 rfl rfl (Nat.le_of_ble_eq_true rfl) ?_
  refine ⟨_, _, _, rfl, by (try rw [(by rw [eh5]; rfl : h5 2 = h3 2)]); (try rw [(by rw [eh3]; rfl : h3 2 = hi 2)]); exact ⟨by omega, ⟨by omega, by omega⟩, ⟨by omega, by omega⟩, ⟨by omega, by omega⟩⟩, fun v6 ev6 => ?_⟩
  try rw [(by rw [eh5]; rfl : h5 2 = h3 2), (by rw [eh3]; rfl : h3 2 = hi 2)] at ev6
  have q49 := wor_rng (h := h) hpre.1
  have w49 : v6 = worA (hi 2) (hi 2 1) h := ev6
  rw [← ev6] at q49
  refine z_iast (pc := 54) (pl := 36) (by decide) rfl (by decide) (by decide) (by decide) ⟨by omega, by omega⟩ dX4_tellHour_54 (fun h7 eh7 => ?_)
  replace eh7 : h7 = hput h5 36 (updI (h5 36) 2 v6) := eh7
  have frh7 : Fr [29, 36] hi h7 := (Fr.put frh5 eh7 (by decide))
  have ff29h7 : FF 29 [6] hi h7 := FF.oth ff29h5 eh7 (by decide)
  refine z_aload_n (pc := 55) (x := 36) dX4_tellHour_55 rfl 2 rfl ?_
  refine z_getR (pc := 56) (pl := 35) (f := 1) (ci := 4) (C := RX4) (T := TX4) (N := 5) hu_X4 (by decide) rfl rfl (by decide) rfl (List.mem_cons_of_mem _ (iw4 _ (List.mem_of_getElem? (i := 14) rfl))) rfl dX4_tellHour_56 ?_
  refine z_iconst (pc := 59) (v := 3) dX4_tellHour_59 rfl ?_
  refine z_iload_n (pc := 60) dX4_tellHour_60 rfl 1 rfl ?_
  refine z_if_ge (pc := 61) (tgt := 68) dX4_tellHour_61 (by decide) ⟨by omega, by omega⟩ (fun c8 => ?_) (fun c8 => ?_)
  · refine z_aload_n (pc := 68) (x := 2) dX4_tellHour_68 rfl 3 rfl ?_
    refine z_iload_n (pc := 69) dX4_tellHour_69 rfl 1 rfl ?_
    refine z_callV (pc := 70) (kc := kX1_numberOf) (n := 1) (pl := 1) (ci := 1) (C := RX1) (As := [AI v1]) (stk := [AI 3, AR 37]) ct_X1_numberOf (gdV rfl rfl (iw34 _ (List.mem_of_getElem? (i := 23) rfl)) (iw7 _ (List.mem_of_getElem? (i := 6) rfl)) (iw7 _ (List.mem_of_getElem? (i := 7) rfl)) (iw1 _ (List.mem_of_getElem? (i := 15) rfl)) (iw7 _ (List.mem_of_getElem? (i := 8) rfl))) rfl ⟨rfl, rfl⟩ (by decide +kernel) ⟨by decide, by decide⟩ (by decide) rfl rfl dX4_tellHour_70 rfl rfl (Nat.le_of_ble_eq_true rfl) ?_
    refine ⟨_, rfl, by omega, fun v9 ev9 => ?_⟩
    try rw [(by rw [eh7]; rfl : h7 2 = h5 2), (by rw [eh5]; rfl : h5 2 = h3 2), (by rw [eh3]; rfl : h3 2 = hi 2)] at ev9
    have rl := toRng hpre.1 (k := v1) ⟨by omega, by have := (Fst.pos w8 (by omega)).1; omega⟩
    refine z_iast (pc := 73) (pl := 36) (by decide) rfl (by decide) (by decide) (by decide) ⟨by omega, by omega⟩ dX4_tellHour_73 (fun h10 eh10 => ?_)
    replace eh10 : h10 = hput h7 36 (updI (h7 36) 3 v9) := eh10
    have frh10 : Fr [29, 36] hi h10 := (Fr.put frh7 eh10 (by decide))
    have ff29h10 : FF 29 [6] hi h10 := FF.oth ff29h7 eh10 (by decide)
    refine z_aload_n (pc := 74) (x := 36) dX4_tellHour_74 rfl 2 rfl ?_
    refine z_getR (pc := 75) (pl := 35) (f := 1) (ci := 4) (C := RX4) (T := TX4) (N := 5) hu_X4 (by decide) rfl rfl (by decide) rfl (List.mem_cons_of_mem _ (iw4 _ (List.mem_of_getElem? (i := 14) rfl))) rfl dX4_tellHour_75 ?_
    refine z_iconst (pc := 78) (v := 4) dX4_tellHour_78 rfl ?_
    refine z_iload (pc := 79) dX4_tellHour_79 0 rfl ?_
    refine z_if_ge (pc := 81) (tgt := 88) dX4_tellHour_81 (by decide) ⟨by omega, by omega⟩ (fun c11 => ?_) (fun c11 => ?_)
    · refine z_aload_n (pc := 88) (x := 2) dX4_tellHour_88 rfl 3 rfl ?_
      refine z_iload (pc := 89) dX4_tellHour_89 0 rfl ?_
      refine z_callV (pc := 91) (kc := kX1_numberOf) (n := 1) (pl := 1) (ci := 1) (C := RX1) (As := [AI v2]) (stk := [AI 4, AR 37]) ct_X1_numberOf (gdV rfl rfl (iw34 _ (List.mem_of_getElem? (i := 23) rfl)) (iw7 _ (List.mem_of_getElem? (i := 6) rfl)) (iw7 _ (List.mem_of_getElem? (i := 7) rfl)) (iw1 _ (List.mem_of_getElem? (i := 15) rfl)) (iw7 _ (List.mem_of_getElem? (i := 8) rfl))) rfl ⟨rfl, rfl⟩ (by decide +kernel) ⟨by decide, by decide⟩ (by decide) rfl rfl dX4_tellHour_91 rfl rfl (Nat.le_of_ble_eq_true rfl) ?_
      refine ⟨_, rfl, by omega, fun v12 ev12 => ?_⟩
      try rw [(by rw [eh10]; rfl : h10 2 = h7 2), (by rw [eh7]; rfl : h7 2 = h5 2), (by rw [eh5]; rfl : h5 2 = h3 2), (by rw [eh3]; rfl : h3 2 = hi 2)] at ev12
      have rm := toRng hpre.1 (k := v2) ⟨by omega, by have := w17.posL (by omega); omega⟩
      refine z_iast (pc := 94) (pl := 36) (by decide) rfl (by decide) (by decide) (by decide) ⟨by omega, by omega⟩ dX4_tellHour_94 (fun h13 eh13 => ?_)
      replace eh13 : h13 = hput h10 36 (updI (h10 36) 4 v12) := eh13
      have frh13 : Fr [29, 36] hi h13 := (Fr.put frh10 eh13 (by decide))
      have ff29h13 : FF 29 [6] hi h13 := FF.oth ff29h10 eh13 (by decide)
      refine z_aload_n (pc := 95) (x := 36) dX4_tellHour_95 rfl 2 rfl ?_
      refine z_getR (pc := 96) (pl := 35) (f := 0) (ci := 4) (C := RX4) (T := TX4) (N := 5) hu_X4 (by decide) rfl rfl (by decide) rfl (List.mem_cons_of_mem _ (iw4 _ (List.mem_of_getElem? (i := 19) rfl))) rfl dX4_tellHour_96 ?_
      refine z_aload_n (pc := 99) (x := 36) dX4_tellHour_99 rfl 2 rfl ?_
      refine z_getI (pc := 100) (pl := 35) (f := 4) (ci := 4) (C := RX4) (T := TX4) (N := 5) hu_X4 (by decide) rfl rfl (by decide) rfl (List.mem_cons_of_mem _ (iw4 _ (List.mem_of_getElem? (i := 18) rfl))) rfl (by decide) dX4_tellHour_100 (fun v14 ev14 rv14 => ?_)
      rw [(by rw [eh13]; rfl : h13 35 4 = h10 35 4), (by rw [eh10]; rfl : h10 35 4 = h7 35 4), (by rw [eh7]; rfl : h7 35 4 = h5 35 4), (by rw [eh5]; rfl : h5 35 4 = h3 35 4), (by rw [eh3]; rfl : h3 35 4 = hi 35 4)] at ev14
      refine z_callV (pc := 103) (kc := kX6_goTo) (n := 1) (pl := 29) (ci := 5) (C := RX6) (As := [AI v14]) (stk := []) ct_X6_goTo2 (gdV rfl rfl (iw35 _ (List.mem_of_getElem? (i := 0) rfl)) (iw25 _ (List.mem_of_getElem? (i := 2) rfl)) (iw25 _ (List.mem_of_getElem? (i := 3) rfl)) (iw2 _ (List.mem_of_getElem? (i := 4) rfl)) (iw25 _ (List.mem_of_getElem? (i := 4) rfl))) rfl ⟨rfl, rfl⟩ (by decide +kernel) ⟨by decide, by decide⟩ (by decide) rfl rfl dX4_tellHour_103 rfl rfl (Nat.le_of_ble_eq_true rfl) ?_
      refine ⟨_, rfl, by omega, fun h15 eh15 => ?_⟩
      have frh15 : Fr [29, 36] hi h15 := (Fr.call frh13 eh15.1 (by decide))
      have ff29h15 : FF 29 [6] hi h15 := FF.call ff29h13 (eh15.2.1) (by decide)
      have w29 : h15 29 = updI (hi 29) 6 (hi 35 4) := by rw [eh15.2.2, hput_same, (by rw [(by rw [eh13]; rfl : h13 29 = h10 29), (by rw [eh10]; rfl : h10 29 = h7 29), (by rw [eh7]; rfl : h7 29 = h5 29), (by rw [eh5]; rfl : h5 29 = h3 29), (by rw [eh3]; rfl : h3 29 = hi 29)] : h13 29 = hi 29)]; first | done | (congr 1 <;> omega)
      refine z_vret (pc := 106) rfl dX4_tellHour_106 ?_
      exact hQ h15 ⟨frh15, ff29h15, ⟨w29, five (P := fun j => h15 36 j = hourF (hi 2) (hi 2 1) h j) (by rw [(by rw [(congrFun (eh15.1 36 (by decide)) 0 : h15 36 0 = h13 36 0), (by rw [eh13]; rfl : h13 36 0 = h10 36 0), (by rw [eh10]; rfl : h10 36 0 = h7 36 0), (by rw [eh7]; rfl : h7 36 0 = h5 36 0), (by rw [eh5]; rfl : h5 36 0 = h3 36 0), (by rw [eh3]; rfl : h3 36 0 = h)] : h15 36 0 = h)]; rfl) (by rw [(by rw [(congrFun (eh15.1 36 (by decide)) 1 : h15 36 1 = h13 36 1), (by rw [eh13]; rfl : h13 36 1 = h10 36 1), (by rw [eh10]; rfl : h10 36 1 = h7 36 1), (by rw [eh7]; rfl : h7 36 1 = h5 36 1), (by rw [eh5]; rfl : h5 36 1 = v4)] : h15 36 1 = v4)]; exact w36) (by rw [(by rw [(congrFun (eh15.1 36 (by decide)) 2 : h15 36 2 = h13 36 2), (by rw [eh13]; rfl : h13 36 2 = h10 36 2), (by rw [eh10]; rfl : h10 36 2 = h7 36 2), (by rw [eh7]; rfl : h7 36 2 = v6)] : h15 36 2 = v6)]; exact w49) (by rw [(by rw [(congrFun (eh15.1 36 (by decide)) 3 : h15 36 3 = h13 36 3), (by rw [eh13]; rfl : h13 36 3 = h10 36 3), (by rw [eh10]; rfl : h10 36 3 = v9)] : h15 36 3 = v9)]; exact lsF_eq ⟨_, w8, by omega⟩) (by rw [(by rw [(congrFun (eh15.1 36 (by decide)) 4 : h15 36 4 = h13 36 4), (by rw [eh13]; rfl : h13 36 4 = v12)] : h15 36 4 = v12)]; exact grF_eq ⟨_, w17, by omega⟩), six (P := fun j => -4000 ≤ h15 36 j ∧ h15 36 j ≤ 4000) (by rw [(by rw [(congrFun (eh15.1 36 (by decide)) 0 : h15 36 0 = h13 36 0), (by rw [eh13]; rfl : h13 36 0 = h10 36 0), (by rw [eh10]; rfl : h10 36 0 = h7 36 0), (by rw [eh7]; rfl : h7 36 0 = h5 36 0), (by rw [eh5]; rfl : h5 36 0 = h3 36 0), (by rw [eh3]; rfl : h3 36 0 = h)] : h15 36 0 = h)]; omega) (by rw [(by rw [(congrFun (eh15.1 36 (by decide)) 1 : h15 36 1 = h13 36 1), (by rw [eh13]; rfl : h13 36 1 = h10 36 1), (by rw [eh10]; rfl : h10 36 1 = h7 36 1), (by rw [eh7]; rfl : h7 36 1 = h5 36 1), (by rw [eh5]; rfl : h5 36 1 = v4)] : h15 36 1 = v4)]; omega) (by rw [(by rw [(congrFun (eh15.1 36 (by decide)) 2 : h15 36 2 = h13 36 2), (by rw [eh13]; rfl : h13 36 2 = h10 36 2), (by rw [eh10]; rfl : h10 36 2 = h7 36 2), (by rw [eh7]; rfl : h7 36 2 = v6)] : h15 36 2 = v6)]; omega) (by rw [(by rw [(congrFun (eh15.1 36 (by decide)) 3 : h15 36 3 = h13 36 3), (by rw [eh13]; rfl : h13 36 3 = h10 36 3), (by rw [eh10]; rfl : h10 36 3 = v9)] : h15 36 3 = v9)]; omega) (by rw [(by rw [(congrFun (eh15.1 36 (by decide)) 4 : h15 36 4 = h13 36 4), (by rw [eh13]; rfl : h13 36 4 = v12)] : h15 36 4 = v12)]; omega) (by rw [(by rw [(congrFun (eh15.1 36 (by decide)) 5 : h15 36 5 = h13 36 5), (by rw [eh13]; rfl : h13 36 5 = h10 36 5), (by rw [eh10]; rfl : h10 36 5 = h7 36 5), (by rw [eh7]; rfl : h7 36 5 = h5 36 5), (by rw [eh5]; rfl : h5 36 5 = h3 36 5), (by rw [eh3]; rfl : h3 36 5 = hi 36 5)] : h15 36 5 = hi 36 5)]; omega)⟩⟩
    · refine z_iconst (pc := 84) (v := (-1)) dX4_tellHour_84 rfl ?_
      refine z_goto (pc := 85) (tgt := 94) dX4_tellHour_85 (by decide) ?_
      refine z_iast (pc := 94) (pl := 36) (by decide) rfl (by decide) (by decide) (by decide) ⟨by decide, by decide⟩ dX4_tellHour_94 (fun h16 eh16 => ?_)
      replace eh16 : h16 = hput h10 36 (updI (h10 36) 4 (-1)) := eh16
      have frh16 : Fr [29, 36] hi h16 := (Fr.put frh10 eh16 (by decide))
      have ff29h16 : FF 29 [6] hi h16 := FF.oth ff29h10 eh16 (by decide)
      refine z_aload_n (pc := 95) (x := 36) dX4_tellHour_95 rfl 2 rfl ?_
      refine z_getR (pc := 96) (pl := 35) (f := 0) (ci := 4) (C := RX4) (T := TX4) (N := 5) hu_X4 (by decide) rfl rfl (by decide) rfl (List.mem_cons_of_mem _ (iw4 _ (List.mem_of_getElem? (i := 19) rfl))) rfl dX4_tellHour_96 ?_
      refine z_aload_n (pc := 99) (x := 36) dX4_tellHour_99 rfl 2 rfl ?_
      refine z_getI (pc := 100) (pl := 35) (f := 4) (ci := 4) (C := RX4) (T := TX4) (N := 5) hu_X4 (by decide) rfl rfl (by decide) rfl (List.mem_cons_of_mem _ (iw4 _ (List.mem_of_getElem? (i := 18) rfl))) rfl (by decide) dX4_tellHour_100 (fun v17 ev17 rv17 => ?_)
      rw [(by rw [eh16]; rfl : h16 35 4 = h10 35 4), (by rw [eh10]; rfl : h10 35 4 = h7 35 4), (by rw [eh7]; rfl : h7 35 4 = h5 35 4), (by rw [eh5]; rfl : h5 35 4 = h3 35 4), (by rw [eh3]; rfl : h3 35 4 = hi 35 4)] at ev17
      refine z_callV (pc := 103) (kc := kX6_goTo) (n := 1) (pl := 29) (ci := 5) (C := RX6) (As := [AI v17]) (stk := []) ct_X6_goTo2 (gdV rfl rfl (iw35 _ (List.mem_of_getElem? (i := 0) rfl)) (iw25 _ (List.mem_of_getElem? (i := 2) rfl)) (iw25 _ (List.mem_of_getElem? (i := 3) rfl)) (iw2 _ (List.mem_of_getElem? (i := 4) rfl)) (iw25 _ (List.mem_of_getElem? (i := 4) rfl))) rfl ⟨rfl, rfl⟩ (by decide +kernel) ⟨by decide, by decide⟩ (by decide) rfl rfl dX4_tellHour_103 rfl rfl (Nat.le_of_ble_eq_true rfl) ?_
      refine ⟨_, rfl, by omega, fun h18 eh18 => ?_⟩
      have frh18 : Fr [29, 36] hi h18 := (Fr.call frh16 eh18.1 (by decide))
      have ff29h18 : FF 29 [6] hi h18 := FF.call ff29h16 (eh18.2.1) (by decide)
      have w29 : h18 29 = updI (hi 29) 6 (hi 35 4) := by rw [eh18.2.2, hput_same, (by rw [(by rw [eh16]; rfl : h16 29 = h10 29), (by rw [eh10]; rfl : h10 29 = h7 29), (by rw [eh7]; rfl : h7 29 = h5 29), (by rw [eh5]; rfl : h5 29 = h3 29), (by rw [eh3]; rfl : h3 29 = hi 29)] : h16 29 = hi 29)]; first | done | (congr 1 <;> omega)
      refine z_vret (pc := 106) rfl dX4_tellHour_106 ?_
      exact hQ h18 ⟨frh18, ff29h18, ⟨w29, five (P := fun j => h18 36 j = hourF (hi 2) (hi 2 1) h j) (by rw [(by rw [(congrFun (eh18.1 36 (by decide)) 0 : h18 36 0 = h16 36 0), (by rw [eh16]; rfl : h16 36 0 = h10 36 0), (by rw [eh10]; rfl : h10 36 0 = h7 36 0), (by rw [eh7]; rfl : h7 36 0 = h5 36 0), (by rw [eh5]; rfl : h5 36 0 = h3 36 0), (by rw [eh3]; rfl : h3 36 0 = h)] : h18 36 0 = h)]; rfl) (by rw [(by rw [(congrFun (eh18.1 36 (by decide)) 1 : h18 36 1 = h16 36 1), (by rw [eh16]; rfl : h16 36 1 = h10 36 1), (by rw [eh10]; rfl : h10 36 1 = h7 36 1), (by rw [eh7]; rfl : h7 36 1 = h5 36 1), (by rw [eh5]; rfl : h5 36 1 = v4)] : h18 36 1 = v4)]; exact w36) (by rw [(by rw [(congrFun (eh18.1 36 (by decide)) 2 : h18 36 2 = h16 36 2), (by rw [eh16]; rfl : h16 36 2 = h10 36 2), (by rw [eh10]; rfl : h10 36 2 = h7 36 2), (by rw [eh7]; rfl : h7 36 2 = v6)] : h18 36 2 = v6)]; exact w49) (by rw [(by rw [(congrFun (eh18.1 36 (by decide)) 3 : h18 36 3 = h16 36 3), (by rw [eh16]; rfl : h16 36 3 = h10 36 3), (by rw [eh10]; rfl : h10 36 3 = v9)] : h18 36 3 = v9)]; exact lsF_eq ⟨_, w8, by omega⟩) (by rw [(by rw [(congrFun (eh18.1 36 (by decide)) 4 : h18 36 4 = h16 36 4), (by rw [eh16]; rfl : h16 36 4 = -1)] : h18 36 4 = -1)]; exact grF_eq ⟨_, w17, by omega⟩), six (P := fun j => -4000 ≤ h18 36 j ∧ h18 36 j ≤ 4000) (by rw [(by rw [(congrFun (eh18.1 36 (by decide)) 0 : h18 36 0 = h16 36 0), (by rw [eh16]; rfl : h16 36 0 = h10 36 0), (by rw [eh10]; rfl : h10 36 0 = h7 36 0), (by rw [eh7]; rfl : h7 36 0 = h5 36 0), (by rw [eh5]; rfl : h5 36 0 = h3 36 0), (by rw [eh3]; rfl : h3 36 0 = h)] : h18 36 0 = h)]; omega) (by rw [(by rw [(congrFun (eh18.1 36 (by decide)) 1 : h18 36 1 = h16 36 1), (by rw [eh16]; rfl : h16 36 1 = h10 36 1), (by rw [eh10]; rfl : h10 36 1 = h7 36 1), (by rw [eh7]; rfl : h7 36 1 = h5 36 1), (by rw [eh5]; rfl : h5 36 1 = v4)] : h18 36 1 = v4)]; omega) (by rw [(by rw [(congrFun (eh18.1 36 (by decide)) 2 : h18 36 2 = h16 36 2), (by rw [eh16]; rfl : h16 36 2 = h10 36 2), (by rw [eh10]; rfl : h10 36 2 = h7 36 2), (by rw [eh7]; rfl : h7 36 2 = v6)] : h18 36 2 = v6)]; omega) (by rw [(by rw [(congrFun (eh18.1 36 (by decide)) 3 : h18 36 3 = h16 36 3), (by rw [eh16]; rfl : h16 36 3 = h10 36 3), (by rw [eh10]; rfl : h10 36 3 = v9)] : h18 36 3 = v9)]; omega) (by rw [(by rw [(congrFun (eh18.1 36 (by decide)) 4 : h18 36 4 = h16 36 4), (by rw [eh16]; rfl : h16 36 4 = -1)] : h18 36 4 = -1)]; omega) (by rw [(by rw [(congrFun (eh18.1 36 (by decide)) 5 : h18 36 5 = h16 36 5), (by rw [eh16]; rfl : h16 36 5 = h10 36 5), (by rw [eh10]; rfl : h10 36 5 = h7 36 5), (by rw [eh7]; rfl : h7 36 5 = h5 36 5), (by rw [eh5]; rfl : h5 36 5 = h3 36 5), (by rw [eh3]; rfl : h3 36 5 = hi 36 5)] : h18 36 5 = hi 36 5)]; omega)⟩⟩
  · refine z_iconst (pc := 64) (v := (-1)) dX4_tellHour_64 rfl ?_
    refine z_goto (pc := 65) (tgt := 73) dX4_tellHour_65 (by decide) ?_
    refine z_iast (pc := 73) (pl := 36) (by decide) rfl (by decide) (by decide) (by decide) ⟨by decide, by decide⟩ dX4_tellHour_73 (fun h19 eh19 => ?_)
    replace eh19 : h19 = hput h7 36 (updI (h7 36) 3 (-1)) := eh19
    have frh19 : Fr [29, 36] hi h19 := (Fr.put frh7 eh19 (by decide))
    have ff29h19 : FF 29 [6] hi h19 := FF.oth ff29h7 eh19 (by decide)
    refine z_aload_n (pc := 74) (x := 36) dX4_tellHour_74 rfl 2 rfl ?_
    refine z_getR (pc := 75) (pl := 35) (f := 1) (ci := 4) (C := RX4) (T := TX4) (N := 5) hu_X4 (by decide) rfl rfl (by decide) rfl (List.mem_cons_of_mem _ (iw4 _ (List.mem_of_getElem? (i := 14) rfl))) rfl dX4_tellHour_75 ?_
    refine z_iconst (pc := 78) (v := 4) dX4_tellHour_78 rfl ?_
    refine z_iload (pc := 79) dX4_tellHour_79 0 rfl ?_
    refine z_if_ge (pc := 81) (tgt := 88) dX4_tellHour_81 (by decide) ⟨by omega, by omega⟩ (fun c20 => ?_) (fun c20 => ?_)
    · refine z_aload_n (pc := 88) (x := 2) dX4_tellHour_88 rfl 3 rfl ?_
      refine z_iload (pc := 89) dX4_tellHour_89 0 rfl ?_
      refine z_callV (pc := 91) (kc := kX1_numberOf) (n := 1) (pl := 1) (ci := 1) (C := RX1) (As := [AI v2]) (stk := [AI 4, AR 37]) ct_X1_numberOf (gdV rfl rfl (iw34 _ (List.mem_of_getElem? (i := 23) rfl)) (iw7 _ (List.mem_of_getElem? (i := 6) rfl)) (iw7 _ (List.mem_of_getElem? (i := 7) rfl)) (iw1 _ (List.mem_of_getElem? (i := 15) rfl)) (iw7 _ (List.mem_of_getElem? (i := 8) rfl))) rfl ⟨rfl, rfl⟩ (by decide +kernel) ⟨by decide, by decide⟩ (by decide) rfl rfl dX4_tellHour_91 rfl rfl (Nat.le_of_ble_eq_true rfl) ?_
      refine ⟨_, rfl, by omega, fun v21 ev21 => ?_⟩
      try rw [(by rw [eh19]; rfl : h19 2 = h7 2), (by rw [eh7]; rfl : h7 2 = h5 2), (by rw [eh5]; rfl : h5 2 = h3 2), (by rw [eh3]; rfl : h3 2 = hi 2)] at ev21
      have rm := toRng hpre.1 (k := v2) ⟨by omega, by have := w17.posL (by omega); omega⟩
      refine z_iast (pc := 94) (pl := 36) (by decide) rfl (by decide) (by decide) (by decide) ⟨by omega, by omega⟩ dX4_tellHour_94 (fun h22 eh22 => ?_)
      replace eh22 : h22 = hput h19 36 (updI (h19 36) 4 v21) := eh22
      have frh22 : Fr [29, 36] hi h22 := (Fr.put frh19 eh22 (by decide))
      have ff29h22 : FF 29 [6] hi h22 := FF.oth ff29h19 eh22 (by decide)
      refine z_aload_n (pc := 95) (x := 36) dX4_tellHour_95 rfl 2 rfl ?_
      refine z_getR (pc := 96) (pl := 35) (f := 0) (ci := 4) (C := RX4) (T := TX4) (N := 5) hu_X4 (by decide) rfl rfl (by decide) rfl (List.mem_cons_of_mem _ (iw4 _ (List.mem_of_getElem? (i := 19) rfl))) rfl dX4_tellHour_96 ?_
      refine z_aload_n (pc := 99) (x := 36) dX4_tellHour_99 rfl 2 rfl ?_
      refine z_getI (pc := 100) (pl := 35) (f := 4) (ci := 4) (C := RX4) (T := TX4) (N := 5) hu_X4 (by decide) rfl rfl (by decide) rfl (List.mem_cons_of_mem _ (iw4 _ (List.mem_of_getElem? (i := 18) rfl))) rfl (by decide) dX4_tellHour_100 (fun v23 ev23 rv23 => ?_)
      rw [(by rw [eh22]; rfl : h22 35 4 = h19 35 4), (by rw [eh19]; rfl : h19 35 4 = h7 35 4), (by rw [eh7]; rfl : h7 35 4 = h5 35 4), (by rw [eh5]; rfl : h5 35 4 = h3 35 4), (by rw [eh3]; rfl : h3 35 4 = hi 35 4)] at ev23
      refine z_callV (pc := 103) (kc := kX6_goTo) (n := 1) (pl := 29) (ci := 5) (C := RX6) (As := [AI v23]) (stk := []) ct_X6_goTo2 (gdV rfl rfl (iw35 _ (List.mem_of_getElem? (i := 0) rfl)) (iw25 _ (List.mem_of_getElem? (i := 2) rfl)) (iw25 _ (List.mem_of_getElem? (i := 3) rfl)) (iw2 _ (List.mem_of_getElem? (i := 4) rfl)) (iw25 _ (List.mem_of_getElem? (i := 4) rfl))) rfl ⟨rfl, rfl⟩ (by decide +kernel) ⟨by decide, by decide⟩ (by decide) rfl rfl dX4_tellHour_103 rfl rfl (Nat.le_of_ble_eq_true rfl) ?_
      refine ⟨_, rfl, by omega, fun h24 eh24 => ?_⟩
      have frh24 : Fr [29, 36] hi h24 := (Fr.call frh22 eh24.1 (by decide))
      have ff29h24 : FF 29 [6] hi h24 := FF.call ff29h22 (eh24.2.1) (by decide)
      have w29 : h24 29 = updI (hi 29) 6 (hi 35 4) := by rw [eh24.2.2, hput_same, (by rw [(by rw [eh22]; rfl : h22 29 = h19 29), (by rw [eh19]; rfl : h19 29 = h7 29), (by rw [eh7]; rfl : h7 29 = h5 29), (by rw [eh5]; rfl : h5 29 = h3 29), (by rw [eh3]; rfl : h3 29 = hi 29)] : h22 29 = hi 29)]; first | done | (congr 1 <;> omega)
      refine z_vret (pc := 106) rfl dX4_tellHour_106 ?_
      exact hQ h24 ⟨frh24, ff29h24, ⟨w29, five (P := fun j => h24 36 j = hourF (hi 2) (hi 2 1) h j) (by rw [(by rw [(congrFun (eh24.1 36 (by decide)) 0 : h24 36 0 = h22 36 0), (by rw [eh22]; rfl : h22 36 0 = h19 36 0), (by rw [eh19]; rfl : h19 36 0 = h7 36 0), (by rw [eh7]; rfl : h7 36 0 = h5 36 0), (by rw [eh5]; rfl : h5 36 0 = h3 36 0), (by rw [eh3]; rfl : h3 36 0 = h)] : h24 36 0 = h)]; rfl) (by rw [(by rw [(congrFun (eh24.1 36 (by decide)) 1 : h24 36 1 = h22 36 1), (by rw [eh22]; rfl : h22 36 1 = h19 36 1), (by rw [eh19]; rfl : h19 36 1 = h7 36 1), (by rw [eh7]; rfl : h7 36 1 = h5 36 1), (by rw [eh5]; rfl : h5 36 1 = v4)] : h24 36 1 = v4)]; exact w36) (by rw [(by rw [(congrFun (eh24.1 36 (by decide)) 2 : h24 36 2 = h22 36 2), (by rw [eh22]; rfl : h22 36 2 = h19 36 2), (by rw [eh19]; rfl : h19 36 2 = h7 36 2), (by rw [eh7]; rfl : h7 36 2 = v6)] : h24 36 2 = v6)]; exact w49) (by rw [(by rw [(congrFun (eh24.1 36 (by decide)) 3 : h24 36 3 = h22 36 3), (by rw [eh22]; rfl : h22 36 3 = h19 36 3), (by rw [eh19]; rfl : h19 36 3 = -1)] : h24 36 3 = -1)]; exact lsF_eq ⟨_, w8, by omega⟩) (by rw [(by rw [(congrFun (eh24.1 36 (by decide)) 4 : h24 36 4 = h22 36 4), (by rw [eh22]; rfl : h22 36 4 = v21)] : h24 36 4 = v21)]; exact grF_eq ⟨_, w17, by omega⟩), six (P := fun j => -4000 ≤ h24 36 j ∧ h24 36 j ≤ 4000) (by rw [(by rw [(congrFun (eh24.1 36 (by decide)) 0 : h24 36 0 = h22 36 0), (by rw [eh22]; rfl : h22 36 0 = h19 36 0), (by rw [eh19]; rfl : h19 36 0 = h7 36 0), (by rw [eh7]; rfl : h7 36 0 = h5 36 0), (by rw [eh5]; rfl : h5 36 0 = h3 36 0), (by rw [eh3]; rfl : h3 36 0 = h)] : h24 36 0 = h)]; omega) (by rw [(by rw [(congrFun (eh24.1 36 (by decide)) 1 : h24 36 1 = h22 36 1), (by rw [eh22]; rfl : h22 36 1 = h19 36 1), (by rw [eh19]; rfl : h19 36 1 = h7 36 1), (by rw [eh7]; rfl : h7 36 1 = h5 36 1), (by rw [eh5]; rfl : h5 36 1 = v4)] : h24 36 1 = v4)]; omega) (by rw [(by rw [(congrFun (eh24.1 36 (by decide)) 2 : h24 36 2 = h22 36 2), (by rw [eh22]; rfl : h22 36 2 = h19 36 2), (by rw [eh19]; rfl : h19 36 2 = h7 36 2), (by rw [eh7]; rfl : h7 36 2 = v6)] : h24 36 2 = v6)]; omega) (by rw [(by rw [(congrFun (eh24.1 36 (by decide)) 3 : h24 36 3 = h22 36 3), (by rw [eh22]; rfl : h22 36 3 = h19 36 3), (by rw [eh19]; rfl : h19 36 3 = -1)] : h24 36 3 = -1)]; omega) (by rw [(by rw [(congrFun (eh24.1 36 (by decide)) 4 : h24 36 4 = h22 36 4), (by rw [eh22]; rfl : h22 36 4 = v21)] : h24 36 4 = v21)]; omega) (by rw [(by rw [(congrFun (eh24.1 36 (by decide)) 5 : h24 36 5 = h22 36 5), (by rw [eh22]; rfl : h22 36 5 = h19 36 5), (by rw [eh19]; rfl : h19 36 5 = h7 36 5), (by rw [eh7]; rfl : h7 36 5 = h5 36 5), (by rw [eh5]; rfl : h5 36 5 = h3 36 5), (by rw [eh3]; rfl : h3 36 5 = hi 36 5)] : h24 36 5 = hi 36 5)]; omega)⟩⟩
    · refine z_iconst (pc := 84) (v := (-1)) dX4_tellHour_84 rfl ?_
      refine z_goto (pc := 85) (tgt := 94) dX4_tellHour_85 (by decide) ?_
      refine z_iast (pc := 94) (pl := 36) (by decide) rfl (by decide) (by decide) (by decide) ⟨by decide, by decide⟩ dX4_tellHour_94 (fun h25 eh25 => ?_)
      replace eh25 : h25 = hput h19 36 (updI (h19 36) 4 (-1)) := eh25
      have frh25 : Fr [29, 36] hi h25 := (Fr.put frh19 eh25 (by decide))
      have ff29h25 : FF 29 [6] hi h25 := FF.oth ff29h19 eh25 (by decide)
      refine z_aload_n (pc := 95) (x := 36) dX4_tellHour_95 rfl 2 rfl ?_
      refine z_getR (pc := 96) (pl := 35) (f := 0) (ci := 4) (C := RX4) (T := TX4) (N := 5) hu_X4 (by decide) rfl rfl (by decide) rfl (List.mem_cons_of_mem _ (iw4 _ (List.mem_of_getElem? (i := 19) rfl))) rfl dX4_tellHour_96 ?_
      refine z_aload_n (pc := 99) (x := 36) dX4_tellHour_99 rfl 2 rfl ?_
      refine z_getI (pc := 100) (pl := 35) (f := 4) (ci := 4) (C := RX4) (T := TX4) (N := 5) hu_X4 (by decide) rfl rfl (by decide) rfl (List.mem_cons_of_mem _ (iw4 _ (List.mem_of_getElem? (i := 18) rfl))) rfl (by decide) dX4_tellHour_100 (fun v26 ev26 rv26 => ?_)
      rw [(by rw [eh25]; rfl : h25 35 4 = h19 35 4), (by rw [eh19]; rfl : h19 35 4 = h7 35 4), (by rw [eh7]; rfl : h7 35 4 = h5 35 4), (by rw [eh5]; rfl : h5 35 4 = h3 35 4), (by rw [eh3]; rfl : h3 35 4 = hi 35 4)] at ev26
      refine z_callV (pc := 103) (kc := kX6_goTo) (n := 1) (pl := 29) (ci := 5) (C := RX6) (As := [AI v26]) (stk := []) ct_X6_goTo2 (gdV rfl rfl (iw35 _ (List.mem_of_getElem? (i := 0) rfl)) (iw25 _ (List.mem_of_getElem? (i := 2) rfl)) (iw25 _ (List.mem_of_getElem? (i := 3) rfl)) (iw2 _ (List.mem_of_getElem? (i := 4) rfl)) (iw25 _ (List.mem_of_getElem? (i := 4) rfl))) rfl ⟨rfl, rfl⟩ (by decide +kernel) ⟨by decide, by decide⟩ (by decide) rfl rfl dX4_tellHour_103 rfl rfl (Nat.le_of_ble_eq_true rfl) ?_
      refine ⟨_, rfl, by omega, fun h27 eh27 => ?_⟩
      have frh27 : Fr [29, 36] hi h27 := (Fr.call frh25 eh27.1 (by decide))
      have ff29h27 : FF 29 [6] hi h27 := FF.call ff29h25 (eh27.2.1) (by decide)
      have w29 : h27 29 = updI (hi 29) 6 (hi 35 4) := by rw [eh27.2.2, hput_same, (by rw [(by rw [eh25]; rfl : h25 29 = h19 29), (by rw [eh19]; rfl : h19 29 = h7 29), (by rw [eh7]; rfl : h7 29 = h5 29), (by rw [eh5]; rfl : h5 29 = h3 29), (by rw [eh3]; rfl : h3 29 = hi 29)] : h25 29 = hi 29)]; first | done | (congr 1 <;> omega)
      refine z_vret (pc := 106) rfl dX4_tellHour_106 ?_
      exact hQ h27 ⟨frh27, ff29h27, ⟨w29, five (P := fun j => h27 36 j = hourF (hi 2) (hi 2 1) h j) (by rw [(by rw [(congrFun (eh27.1 36 (by decide)) 0 : h27 36 0 = h25 36 0), (by rw [eh25]; rfl : h25 36 0 = h19 36 0), (by rw [eh19]; rfl : h19 36 0 = h7 36 0), (by rw [eh7]; rfl : h7 36 0 = h5 36 0), (by rw [eh5]; rfl : h5 36 0 = h3 36 0), (by rw [eh3]; rfl : h3 36 0 = h)] : h27 36 0 = h)]; rfl) (by rw [(by rw [(congrFun (eh27.1 36 (by decide)) 1 : h27 36 1 = h25 36 1), (by rw [eh25]; rfl : h25 36 1 = h19 36 1), (by rw [eh19]; rfl : h19 36 1 = h7 36 1), (by rw [eh7]; rfl : h7 36 1 = h5 36 1), (by rw [eh5]; rfl : h5 36 1 = v4)] : h27 36 1 = v4)]; exact w36) (by rw [(by rw [(congrFun (eh27.1 36 (by decide)) 2 : h27 36 2 = h25 36 2), (by rw [eh25]; rfl : h25 36 2 = h19 36 2), (by rw [eh19]; rfl : h19 36 2 = h7 36 2), (by rw [eh7]; rfl : h7 36 2 = v6)] : h27 36 2 = v6)]; exact w49) (by rw [(by rw [(congrFun (eh27.1 36 (by decide)) 3 : h27 36 3 = h25 36 3), (by rw [eh25]; rfl : h25 36 3 = h19 36 3), (by rw [eh19]; rfl : h19 36 3 = -1)] : h27 36 3 = -1)]; exact lsF_eq ⟨_, w8, by omega⟩) (by rw [(by rw [(congrFun (eh27.1 36 (by decide)) 4 : h27 36 4 = h25 36 4), (by rw [eh25]; rfl : h25 36 4 = -1)] : h27 36 4 = -1)]; exact grF_eq ⟨_, w17, by omega⟩), six (P := fun j => -4000 ≤ h27 36 j ∧ h27 36 j ≤ 4000) (by rw [(by rw [(congrFun (eh27.1 36 (by decide)) 0 : h27 36 0 = h25 36 0), (by rw [eh25]; rfl : h25 36 0 = h19 36 0), (by rw [eh19]; rfl : h19 36 0 = h7 36 0), (by rw [eh7]; rfl : h7 36 0 = h5 36 0), (by rw [eh5]; rfl : h5 36 0 = h3 36 0), (by rw [eh3]; rfl : h3 36 0 = h)] : h27 36 0 = h)]; omega) (by rw [(by rw [(congrFun (eh27.1 36 (by decide)) 1 : h27 36 1 = h25 36 1), (by rw [eh25]; rfl : h25 36 1 = h19 36 1), (by rw [eh19]; rfl : h19 36 1 = h7 36 1), (by rw [eh7]; rfl : h7 36 1 = h5 36 1), (by rw [eh5]; rfl : h5 36 1 = v4)] : h27 36 1 = v4)]; omega) (by rw [(by rw [(congrFun (eh27.1 36 (by decide)) 2 : h27 36 2 = h25 36 2), (by rw [eh25]; rfl : h25 36 2 = h19 36 2), (by rw [eh19]; rfl : h19 36 2 = h7 36 2), (by rw [eh7]; rfl : h7 36 2 = v6)] : h27 36 2 = v6)]; omega) (by rw [(by rw [(congrFun (eh27.1 36 (by decide)) 3 : h27 36 3 = h25 36 3), (by rw [eh25]; rfl : h25 36 3 = h19 36 3), (by rw [eh19]; rfl : h19 36 3 = -1)] : h27 36 3 = -1)]; omega) (by rw [(by rw [(congrFun (eh27.1 36 (by decide)) 4 : h27 36 4 = h25 36 4), (by rw [eh25]; rfl : h25 36 4 = -1)] : h27 36 4 = -1)]; omega) (by rw [(by rw [(congrFun (eh27.1 36 (by decide)) 5 : h27 36 5 = h25 36 5), (by rw [eh25]; rfl : h25 36 5 = h19 36 5), (by rw [eh19]; rfl : h19 36 5 = h7 36 5), (by rw [eh7]; rfl : h7 36 5 = h5 36 5), (by rw [eh5]; rfl : h5 36 5 = h3 36 5), (by rw [eh3]; rfl : h3 36 5 = hi 36 5)] : h27 36 5 = hi 36 5)]; omega)⟩⟩

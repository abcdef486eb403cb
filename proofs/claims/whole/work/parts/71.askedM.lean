def FBm (hi : HI) : Prop := ∀ j : Nat, j < 6 → -4000 ≤ hi 51 j ∧ hi 51 j ≤ 4000
theorem vk {A : Int → Prop} {N : Int → Int} {v d : Int} (h : ∃ k, A k ∧ ((k < 0 ∧ v = -1) ∨ (0 ≤ k ∧ v = N k ∧ 0 ≤ v ∧ v ≤ 999))) : (-1 ≤ v ∧ v ≤ 999) ∧ ∃ k, A k ∧ ((k < 0 ∧ v = -1) ∨ (0 ≤ k ∧ v = N k)) := by
  obtain ⟨k, a, b | b⟩ := h
  · exact ⟨by omega, k, a, Or.inl b⟩
  · exact ⟨by omega, k, a, Or.inr ⟨b.1, b.2.1⟩⟩
theorem smH {x : Int → Int} {h : Int} (h0 : 0 ≤ h) : 0 ≤ sm (fun z => if x z = 1 then 1 else 0) h.toNat ∧ sm (fun z => if x z = 1 then 1 else 0) h.toNat ≤ h := by
  have key : ∀ n : Nat, 0 ≤ sm (fun z => if x z = 1 then 1 else 0) n ∧ sm (fun z => if x z = 1 then 1 else 0) n ≤ n := fun n => by
    induction n with
    | zero => exact ⟨Int.le_refl 0, Int.le_refl 0⟩
    | succ n ih =>
      have e : sm (fun z => if x z = 1 then 1 else 0) (n + 1) = sm (fun z => if x z = 1 then 1 else 0) n + (if x (n : Int) = 1 then 1 else 0) := rfl
      rw [e]; split <;> omega
  have := key h.toNat
  omega

abbrev kX8_askLives : Kd := (cX8_askLives, .code yX8_askLives cX8_askLives 4 (some .int) :: wsL_law0, rmL 6, RX8, (some .int), 4)
theorem ct_X8_askLives : Ct kX8_askLives yX8_askLives (fun a hi Q => ∃ b : Int, ∃ g : Ex, a = [AR 40, AI b] ∧ (RI (hi 40) (hi 40 0) ∧ CM hi [g] ∧ hi 39 24 ≤ 600 ∧ QG 0 g ∧ FBm hi ∧ (b = 0 ∨ b = 1)) ∧ ∀ (v : Int) (h2 : HI), (Fr [51, 52] hi h2 ∧ (v = sm (fun z => if g (lifeF (hi 40) z) = 1 then (if b = 1 then wO (hi 40) z else 1) else 0) (hi 40 0).toNat ∧ FBm h2)) → Q (AI v) h2) := by
  refine Ct.of (ws' := _) (by decide +kernel) rfl rfl ?_
  intro a hi Q hT
  obtain ⟨b, g, rfl, hpre, hQ⟩ := hT
  refine ⟨Nat.le_of_ble_eq_true rfl, ?_⟩
  show Z kX8_askLives Q 0 [(0, AR 40), (1, AI b)] [] hi
  obtain ⟨ri, cg, b24, qg, fb, hb⟩ := hpre
  have n40 := ri.1
  refine z_iconst (pc := 0) (v := 0) dX8_askLives_0 rfl ?_
  refine z_istore_n (pc := 1) (lv' := [(2, AI 0), (0, AR 40), (1, AI b)]) dX8_askLives_1 rfl (by decide) rfl ?_
  refine z_iconst (pc := 2) (v := 0) dX8_askLives_2 rfl ?_
  refine z_istore_n (pc := 3) (lv' := [(3, AI 0), (2, AI 0), (0, AR 40), (1, AI b)]) dX8_askLives_3 rfl (by decide) rfl ?_
  have J4 : ∀ (N : Nat) (acc k : Int) (hk : HI), (0 ≤ k ∧ k ≤ hi 40 0) → (acc = sm (fun z => if g (lifeF (hi 40) z) = 1 then (if b = 1 then wO (hi 40) z else 1) else 0) k.toNat) → (FBm hk) → (Fr [51, 52] hi hk) → ((hi 40 0 - k).toNat) < N → Z kX8_askLives Q 4 [(3, AI k), (2, AI acc), (0, AR 40), (1, AI b)] [] hk := by
    intro N
    induction N with
    | zero => intro acc k hk _ _ _ _ _; exact absurd (by assumption) (Nat.not_lt_zero _)
    | succ N ih4 =>
      intro acc k hk i0 i1 i3 frlhk hm4
      have rk := fun q : k < hi 40 0 => toRng ri (k := k) ⟨i0.1, q⟩
      refine z_iload_n (pc := 4) dX8_askLives_4 rfl 0 rfl ?_
      refine z_aload_n (pc := 5) (x := 40) dX8_askLives_5 rfl 2 rfl ?_
      refine z_getR (pc := 6) (pl := 39) (f := 1) (ci := 7) (C := RX8) (T := TX8) (N := 33) hu_X8 (by decide) rfl rfl (by decide) rfl (List.mem_cons_of_mem _ (iw5 _ (List.mem_of_getElem? (i := 5) rfl))) rfl dX8_askLives_6 ?_
      refine z_iconst (pc := 9) (v := 0) dX8_askLives_9 rfl ?_
      refine z_iald (pc := 10) (pl := 40) (by decide) rfl (by decide) (by decide) (by decide) (by decide) dX8_askLives_10 (fun v1 ev1 rv1 => ?_)
      replace ev1 : v1 = hk 40 0 := ev1
      rw [(congrFun (frlhk 40 (by decide)) 0 : hk 40 0 = hi 40 0)] at ev1
      refine z_icmp_ge (pc := 11) (tgt := 126) dX8_askLives_11 (by decide) ⟨by omega, by omega⟩ ⟨by omega, by omega⟩ (fun c2 => ?_) (fun c2 => ?_)
      · refine z_iload_n (pc := 126) dX8_askLives_126 rfl 1 rfl ?_
        refine z_iret (pc := 127) rfl dX8_askLives_127 ?_
        exact hQ acc hk ⟨frlhk, ⟨by rw [i1, show k = hi 40 0 by omega], i3⟩⟩
      · refine z_aload_n (pc := 14) (x := 40) dX8_askLives_14 rfl 2 rfl ?_
        refine z_getR (pc := 15) (pl := 39) (f := 29) (ci := 7) (C := RX8) (T := TX8) (N := 33) hu_X8 (by decide) rfl rfl (by decide) rfl (List.mem_cons_of_mem _ (iw5 _ (List.mem_of_getElem? (i := 17) rfl))) rfl dX8_askLives_15 ?_
        refine z_iconst (pc := 18) (v := 0) dX8_askLives_18 rfl ?_
        refine z_aload_n (pc := 19) (x := 40) dX8_askLives_19 rfl 2 rfl ?_
        refine z_iload_n (pc := 20) dX8_askLives_20 rfl 0 rfl ?_
        refine z_iconst (pc := 21) (v := 0) dX8_askLives_21 rfl ?_
        refine z_callV (pc := 22) (kc := kX8_its) (n := 2) (pl := 39) (ci := 7) (C := RX8) (As := [AI k, AI 0]) (stk := [AI 0, AR 52]) ct_X8_its (gdV rfl rfl (iw13 _ (List.mem_of_getElem? (i := 0) rfl)) (iw13 _ (List.mem_of_getElem? (i := 1) rfl)) (iw13 _ (List.mem_of_getElem? (i := 2) rfl)) (iw1 _ (List.mem_of_getElem? (i := 5) rfl)) (iw13 _ (List.mem_of_getElem? (i := 3) rfl))) rfl ⟨rfl, rfl⟩ (by decide +kernel) ⟨by decide, by decide⟩ (by decide) rfl rfl dX8_askLives_22 rfl rfl (Nat.le_of_ble_eq_true rfl) ?_
        refine ⟨_, _, rfl, ⟨by omega, by decide, by decide⟩, fun v3 ev3 => ?_⟩
        try rw [(frlhk 40 (by decide) : hk 40 = hi 40)] at ev3
        replace ev3 : v3 = nO (hi 40) k ∧ inR v3 := ev3
        have rkk := rk (by omega)
        refine z_iast (pc := 25) (pl := 51) (by decide) rfl (by decide) (by decide) (by decide) ⟨by omega, by omega⟩ dX8_askLives_25 (fun h4 eh4 => ?_)
        replace eh4 : h4 = hput hk 51 (updI (hk 51) 0 v3) := eh4
        have frh4 : Fr [51, 52] hi h4 := (Fr.put frlhk eh4 (by decide))
        refine z_aload_n (pc := 26) (x := 40) dX8_askLives_26 rfl 2 rfl ?_
        refine z_getR (pc := 27) (pl := 39) (f := 29) (ci := 7) (C := RX8) (T := TX8) (N := 33) hu_X8 (by decide) rfl rfl (by decide) rfl (List.mem_cons_of_mem _ (iw5 _ (List.mem_of_getElem? (i := 17) rfl))) rfl dX8_askLives_27 ?_
        refine z_iconst (pc := 30) (v := 1) dX8_askLives_30 rfl ?_
        refine z_aload_n (pc := 31) (x := 40) dX8_askLives_31 rfl 2 rfl ?_
        refine z_iload_n (pc := 32) dX8_askLives_32 rfl 0 rfl ?_
        refine z_iconst (pc := 33) (v := 1) dX8_askLives_33 rfl ?_
        refine z_callV (pc := 34) (kc := kX8_its) (n := 2) (pl := 39) (ci := 7) (C := RX8) (As := [AI k, AI 1]) (stk := [AI 1, AR 52]) ct_X8_its (gdV rfl rfl (iw13 _ (List.mem_of_getElem? (i := 0) rfl)) (iw13 _ (List.mem_of_getElem? (i := 1) rfl)) (iw13 _ (List.mem_of_getElem? (i := 2) rfl)) (iw1 _ (List.mem_of_getElem? (i := 5) rfl)) (iw13 _ (List.mem_of_getElem? (i := 3) rfl))) rfl ⟨rfl, rfl⟩ (by decide +kernel) ⟨by decide, by decide⟩ (by decide) rfl rfl dX8_askLives_34 rfl rfl (Nat.le_of_ble_eq_true rfl) ?_
        refine ⟨_, _, rfl, ⟨by omega, by decide, by decide⟩, fun v5 ev5 => ?_⟩
        try rw [(by rw [eh4]; rfl : h4 40 = hk 40), (frlhk 40 (by decide) : hk 40 = hi 40)] at ev5
        replace ev5 : v5 = bO (hi 40) k ∧ inR v5 := ev5
        refine z_iast (pc := 37) (pl := 51) (by decide) rfl (by decide) (by decide) (by decide) ⟨by omega, by omega⟩ dX8_askLives_37 (fun h6 eh6 => ?_)
        replace eh6 : h6 = hput h4 51 (updI (h4 51) 1 v5) := eh6
        have frh6 : Fr [51, 52] hi h6 := (Fr.put frh4 eh6 (by decide))
        refine z_aload_n (pc := 38) (x := 40) dX8_askLives_38 rfl 2 rfl ?_
        refine z_getR (pc := 39) (pl := 39) (f := 29) (ci := 7) (C := RX8) (T := TX8) (N := 33) hu_X8 (by decide) rfl rfl (by decide) rfl (List.mem_cons_of_mem _ (iw5 _ (List.mem_of_getElem? (i := 17) rfl))) rfl dX8_askLives_39 ?_
        refine z_iconst (pc := 42) (v := 2) dX8_askLives_42 rfl ?_
        refine z_aload_n (pc := 43) (x := 40) dX8_askLives_43 rfl 2 rfl ?_
        refine z_iload_n (pc := 44) dX8_askLives_44 rfl 0 rfl ?_
        refine z_iconst (pc := 45) (v := 2) dX8_askLives_45 rfl ?_
        refine z_callV (pc := 46) (kc := kX8_its) (n := 2) (pl := 39) (ci := 7) (C := RX8) (As := [AI k, AI 2]) (stk := [AI 2, AR 52]) ct_X8_its (gdV rfl rfl (iw13 _ (List.mem_of_getElem? (i := 0) rfl)) (iw13 _ (List.mem_of_getElem? (i := 1) rfl)) (iw13 _ (List.mem_of_getElem? (i := 2) rfl)) (iw1 _ (List.mem_of_getElem? (i := 5) rfl)) (iw13 _ (List.mem_of_getElem? (i := 3) rfl))) rfl ⟨rfl, rfl⟩ (by decide +kernel) ⟨by decide, by decide⟩ (by decide) rfl rfl dX8_askLives_46 rfl rfl (Nat.le_of_ble_eq_true rfl) ?_
        refine ⟨_, _, rfl, ⟨by omega, by decide, by decide⟩, fun v7 ev7 => ?_⟩
        try rw [(by rw [eh6]; rfl : h6 40 = h4 40), (by rw [eh4]; rfl : h4 40 = hk 40), (frlhk 40 (by decide) : hk 40 = hi 40)] at ev7
        replace ev7 : v7 = dO (hi 40) k ∧ inR v7 := ev7
        refine z_iast (pc := 49) (pl := 51) (by decide) rfl (by decide) (by decide) (by decide) ⟨by omega, by omega⟩ dX8_askLives_49 (fun h8 eh8 => ?_)
        replace eh8 : h8 = hput h6 51 (updI (h6 51) 2 v7) := eh8
        have frh8 : Fr [51, 52] hi h8 := (Fr.put frh6 eh8 (by decide))
        refine z_aload_n (pc := 50) (x := 40) dX8_askLives_50 rfl 2 rfl ?_
        refine z_getR (pc := 51) (pl := 39) (f := 29) (ci := 7) (C := RX8) (T := TX8) (N := 33) hu_X8 (by decide) rfl rfl (by decide) rfl (List.mem_cons_of_mem _ (iw5 _ (List.mem_of_getElem? (i := 17) rfl))) rfl dX8_askLives_51 ?_
        refine z_iconst (pc := 54) (v := 3) dX8_askLives_54 rfl ?_
        refine z_aload_n (pc := 55) (x := 40) dX8_askLives_55 rfl 2 rfl ?_
        refine z_iload_n (pc := 56) dX8_askLives_56 rfl 0 rfl ?_
        refine z_iconst (pc := 57) (v := 2) dX8_askLives_57 rfl ?_
        refine z_callV (pc := 58) (kc := kX8_its) (n := 2) (pl := 39) (ci := 7) (C := RX8) (As := [AI k, AI 2]) (stk := [AI 3, AR 52]) ct_X8_its (gdV rfl rfl (iw13 _ (List.mem_of_getElem? (i := 0) rfl)) (iw13 _ (List.mem_of_getElem? (i := 1) rfl)) (iw13 _ (List.mem_of_getElem? (i := 2) rfl)) (iw1 _ (List.mem_of_getElem? (i := 5) rfl)) (iw13 _ (List.mem_of_getElem? (i := 3) rfl))) rfl ⟨rfl, rfl⟩ (by decide +kernel) ⟨by decide, by decide⟩ (by decide) rfl rfl dX8_askLives_58 rfl rfl (Nat.le_of_ble_eq_true rfl) ?_
        refine ⟨_, _, rfl, ⟨by omega, by decide, by decide⟩, fun v9 ev9 => ?_⟩
        try rw [(by rw [eh8]; rfl : h8 40 = h6 40), (by rw [eh6]; rfl : h6 40 = h4 40), (by rw [eh4]; rfl : h4 40 = hk 40), (frlhk 40 (by decide) : hk 40 = hi 40)] at ev9
        replace ev9 : v9 = dO (hi 40) k ∧ inR v9 := ev9
        refine z_aload_n (pc := 61) (x := 40) dX8_askLives_61 rfl 2 rfl ?_
        refine z_iload_n (pc := 62) dX8_askLives_62 rfl 0 rfl ?_
        refine z_iconst (pc := 63) (v := 1) dX8_askLives_63 rfl ?_
        refine z_callV (pc := 64) (kc := kX8_its) (n := 2) (pl := 39) (ci := 7) (C := RX8) (As := [AI k, AI 1]) (stk := [AI v9, AI 3, AR 52]) ct_X8_its (gdV rfl rfl (iw13 _ (List.mem_of_getElem? (i := 0) rfl)) (iw13 _ (List.mem_of_getElem? (i := 1) rfl)) (iw13 _ (List.mem_of_getElem? (i := 2) rfl)) (iw1 _ (List.mem_of_getElem? (i := 5) rfl)) (iw13 _ (List.mem_of_getElem? (i := 3) rfl))) rfl ⟨rfl, rfl⟩ (by decide +kernel) ⟨by decide, by decide⟩ (by decide) rfl rfl dX8_askLives_64 rfl rfl (Nat.le_of_ble_eq_true rfl) ?_
        refine ⟨_, _, rfl, ⟨by omega, by decide, by decide⟩, fun v10 ev10 => ?_⟩
        try rw [(by rw [eh8]; rfl : h8 40 = h6 40), (by rw [eh6]; rfl : h6 40 = h4 40), (by rw [eh4]; rfl : h4 40 = hk 40), (frlhk 40 (by decide) : hk 40 = hi 40)] at ev10
        replace ev10 : v10 = bO (hi 40) k ∧ inR v10 := ev10
        refine z_isub (pc := 67) dX8_askLives_67 (fun v11 ev11 => ?_)
        refine z_iast (pc := 68) (pl := 51) (by decide) rfl (by decide) (by decide) (by decide) ⟨by omega, by omega⟩ dX8_askLives_68 (fun h12 eh12 => ?_)
        replace eh12 : h12 = hput h8 51 (updI (h8 51) 3 v11) := eh12
        have frh12 : Fr [51, 52] hi h12 := (Fr.put frh8 eh12 (by decide))
        refine z_aload_n (pc := 69) (x := 40) dX8_askLives_69 rfl 2 rfl ?_
        refine z_getR (pc := 70) (pl := 39) (f := 29) (ci := 7) (C := RX8) (T := TX8) (N := 33) hu_X8 (by decide) rfl rfl (by decide) rfl (List.mem_cons_of_mem _ (iw5 _ (List.mem_of_getElem? (i := 17) rfl))) rfl dX8_askLives_70 ?_
        refine z_iconst (pc := 73) (v := 4) dX8_askLives_73 rfl ?_
        refine z_aload_n (pc := 74) (x := 40) dX8_askLives_74 rfl 2 rfl ?_
        refine z_iload_n (pc := 75) dX8_askLives_75 rfl 0 rfl ?_
        refine z_iconst (pc := 76) (v := 3) dX8_askLives_76 rfl ?_
        refine z_callV (pc := 77) (kc := kX8_its) (n := 2) (pl := 39) (ci := 7) (C := RX8) (As := [AI k, AI 3]) (stk := [AI 4, AR 52]) ct_X8_its (gdV rfl rfl (iw13 _ (List.mem_of_getElem? (i := 0) rfl)) (iw13 _ (List.mem_of_getElem? (i := 1) rfl)) (iw13 _ (List.mem_of_getElem? (i := 2) rfl)) (iw1 _ (List.mem_of_getElem? (i := 5) rfl)) (iw13 _ (List.mem_of_getElem? (i := 3) rfl))) rfl ⟨rfl, rfl⟩ (by decide +kernel) ⟨by decide, by decide⟩ (by decide) rfl rfl dX8_askLives_77 rfl rfl (Nat.le_of_ble_eq_true rfl) ?_
        refine ⟨_, _, rfl, ⟨by omega, by decide, by decide⟩, fun v13 ev13 => ?_⟩
        try rw [(by rw [eh12]; rfl : h12 40 = h8 40), (by rw [eh8]; rfl : h8 40 = h6 40), (by rw [eh6]; rfl : h6 40 = h4 40), (by rw [eh4]; rfl : h4 40 = hk 40), (frlhk 40 (by decide) : hk 40 = hi 40)] at ev13
        replace ev13 : v13 = wO (hi 40) k ∧ inR v13 := ev13
        refine z_iast (pc := 80) (pl := 51) (by decide) rfl (by decide) (by decide) (by decide) ⟨by omega, by omega⟩ dX8_askLives_80 (fun h14 eh14 => ?_)
        replace eh14 : h14 = hput h12 51 (updI (h12 51) 4 v13) := eh14
        have frh14 : Fr [51, 52] hi h14 := (Fr.put frh12 eh14 (by decide))
        refine z_aload_n (pc := 81) (x := 40) dX8_askLives_81 rfl 2 rfl ?_
        refine z_getR (pc := 82) (pl := 39) (f := 29) (ci := 7) (C := RX8) (T := TX8) (N := 33) hu_X8 (by decide) rfl rfl (by decide) rfl (List.mem_cons_of_mem _ (iw5 _ (List.mem_of_getElem? (i := 17) rfl))) rfl dX8_askLives_82 ?_
        refine z_iconst (pc := 85) (v := 5) dX8_askLives_85 rfl ?_
        refine z_aload_n (pc := 86) (x := 40) dX8_askLives_86 rfl 2 rfl ?_
        refine z_iload_n (pc := 87) dX8_askLives_87 rfl 0 rfl ?_
        refine z_callV (pc := 88) (kc := kX8_piecesOf) (n := 1) (pl := 39) (ci := 7) (C := RX8) (As := [AI k]) (stk := [AI 5, AR 52]) ct_X8_piecesOf (gdV rfl rfl (iw39 _ (List.mem_of_getElem? (i := 22) rfl)) (iw39 _ (List.mem_of_getElem? (i := 23) rfl)) (iw40 _ (List.mem_of_getElem? (i := 0) rfl)) (iw1 _ (List.mem_of_getElem? (i := 5) rfl)) (iw40 _ (List.mem_of_getElem? (i := 1) rfl))) rfl ⟨rfl, rfl⟩ (by decide +kernel) ⟨by decide, by decide⟩ (by decide) rfl rfl dX8_askLives_88 rfl rfl (Nat.le_of_ble_eq_true rfl) ?_
        refine ⟨_, rfl, ⟨by rw [(by rw [(by rw [eh14]; rfl : h14 40 = h12 40), (by rw [eh12]; rfl : h12 40 = h8 40), (by rw [eh8]; rfl : h8 40 = h6 40), (by rw [eh6]; rfl : h6 40 = h4 40), (by rw [eh4]; rfl : h4 40 = hk 40), (frlhk 40 (by decide) : hk 40 = hi 40)] : h14 40 = hi 40)]; exact ri, by rw [(by rw [(by rw [eh14]; rfl : h14 40 = h12 40), (by rw [eh12]; rfl : h12 40 = h8 40), (by rw [eh8]; rfl : h8 40 = h6 40), (by rw [eh6]; rfl : h6 40 = h4 40), (by rw [eh4]; rfl : h4 40 = hk 40), (frlhk 40 (by decide) : hk 40 = hi 40)] : h14 40 = hi 40)]; omega⟩, fun v15 ev15 => ?_⟩
        try rw [(by rw [eh14]; rfl : h14 40 = h12 40), (by rw [eh12]; rfl : h12 40 = h8 40), (by rw [eh8]; rfl : h8 40 = h6 40), (by rw [eh6]; rfl : h6 40 = h4 40), (by rw [eh4]; rfl : h4 40 = hk 40), (frlhk 40 (by decide) : hk 40 = hi 40)] at ev15
        refine z_iast (pc := 91) (pl := 51) (by decide) rfl (by decide) (by decide) (by decide) ⟨by omega, by omega⟩ dX8_askLives_91 (fun h16 eh16 => ?_)
        replace eh16 : h16 = hput h14 51 (updI (h14 51) 5 v15) := eh16
        have frh16 : Fr [51, 52] hi h16 := (Fr.put frh14 eh16 (by decide))
        have w51 : ∀ j : Nat, j < 6 → h16 51 j = lifeF (hi 40) k j := six (P := fun j => h16 51 j = lifeF (hi 40) k j) (by rw [(by rw [(by rw [eh16]; rfl : h16 51 0 = h14 51 0), (by rw [eh14]; rfl : h14 51 0 = h12 51 0), (by rw [eh12]; rfl : h12 51 0 = h8 51 0), (by rw [eh8]; rfl : h8 51 0 = h6 51 0), (by rw [eh6]; rfl : h6 51 0 = h4 51 0), (by rw [eh4]; rfl : h4 51 0 = v3)] : h16 51 0 = v3)]; show _ = nO (hi 40) k; omega) (by rw [(by rw [(by rw [eh16]; rfl : h16 51 1 = h14 51 1), (by rw [eh14]; rfl : h14 51 1 = h12 51 1), (by rw [eh12]; rfl : h12 51 1 = h8 51 1), (by rw [eh8]; rfl : h8 51 1 = h6 51 1), (by rw [eh6]; rfl : h6 51 1 = v5)] : h16 51 1 = v5)]; show _ = bO (hi 40) k; omega) (by rw [(by rw [(by rw [eh16]; rfl : h16 51 2 = h14 51 2), (by rw [eh14]; rfl : h14 51 2 = h12 51 2), (by rw [eh12]; rfl : h12 51 2 = h8 51 2), (by rw [eh8]; rfl : h8 51 2 = v7)] : h16 51 2 = v7)]; show _ = dO (hi 40) k; omega) (by rw [(by rw [(by rw [eh16]; rfl : h16 51 3 = h14 51 3), (by rw [eh14]; rfl : h14 51 3 = h12 51 3), (by rw [eh12]; rfl : h12 51 3 = v11)] : h16 51 3 = v11)]; show _ = dO (hi 40) k - bO (hi 40) k; omega) (by rw [(by rw [(by rw [eh16]; rfl : h16 51 4 = h14 51 4), (by rw [eh14]; rfl : h14 51 4 = v13)] : h16 51 4 = v13)]; show _ = wO (hi 40) k; omega) (by rw [(by rw [(by rw [eh16]; rfl : h16 51 5 = v15)] : h16 51 5 = v15)]; show _ = pcs (bO (hi 40) k) (dO (hi 40) k); omega)
        have fb1 : FBm h16 := six (P := fun j => -4000 ≤ h16 51 j ∧ h16 51 j ≤ 4000) (by rw [(by rw [(by rw [eh16]; rfl : h16 51 0 = h14 51 0), (by rw [eh14]; rfl : h14 51 0 = h12 51 0), (by rw [eh12]; rfl : h12 51 0 = h8 51 0), (by rw [eh8]; rfl : h8 51 0 = h6 51 0), (by rw [eh6]; rfl : h6 51 0 = h4 51 0), (by rw [eh4]; rfl : h4 51 0 = v3)] : h16 51 0 = v3)]; omega) (by rw [(by rw [(by rw [eh16]; rfl : h16 51 1 = h14 51 1), (by rw [eh14]; rfl : h14 51 1 = h12 51 1), (by rw [eh12]; rfl : h12 51 1 = h8 51 1), (by rw [eh8]; rfl : h8 51 1 = h6 51 1), (by rw [eh6]; rfl : h6 51 1 = v5)] : h16 51 1 = v5)]; omega) (by rw [(by rw [(by rw [eh16]; rfl : h16 51 2 = h14 51 2), (by rw [eh14]; rfl : h14 51 2 = h12 51 2), (by rw [eh12]; rfl : h12 51 2 = h8 51 2), (by rw [eh8]; rfl : h8 51 2 = v7)] : h16 51 2 = v7)]; omega) (by rw [(by rw [(by rw [eh16]; rfl : h16 51 3 = h14 51 3), (by rw [eh14]; rfl : h14 51 3 = h12 51 3), (by rw [eh12]; rfl : h12 51 3 = v11)] : h16 51 3 = v11)]; omega) (by rw [(by rw [(by rw [eh16]; rfl : h16 51 4 = h14 51 4), (by rw [eh14]; rfl : h14 51 4 = v13)] : h16 51 4 = v13)]; omega) (by rw [(by rw [(by rw [eh16]; rfl : h16 51 5 = v15)] : h16 51 5 = v15)]; omega)
        refine z_iload_n (pc := 92) dX8_askLives_92 rfl 1 rfl ?_
        refine z_aload_n (pc := 93) (x := 40) dX8_askLives_93 rfl 2 rfl ?_
        refine z_callV (pc := 94) (kc := kX8_holds) (n := 0) (pl := 39) (ci := 7) (C := RX8) (As := []) (stk := [AI acc]) ct_X8_holds (gdV rfl rfl (iw39 _ (List.mem_of_getElem? (i := 11) rfl)) (iw39 _ (List.mem_of_getElem? (i := 12) rfl)) (iw39 _ (List.mem_of_getElem? (i := 13) rfl)) (iw1 _ (List.mem_of_getElem? (i := 5) rfl)) (iw39 _ (List.mem_of_getElem? (i := 14) rfl))) rfl ⟨rfl, rfl⟩ (by decide +kernel) ⟨by decide, by decide⟩ (by decide) rfl rfl dX8_askLives_94 rfl rfl (Nat.le_of_ble_eq_true rfl) ?_
        refine ⟨g, rfl, ⟨cg.kp (by rw [(by rw [eh16]; rfl : h16 49 = h14 49), (by rw [eh14]; rfl : h14 49 = h12 49), (by rw [eh12]; rfl : h12 49 = h8 49), (by rw [eh8]; rfl : h8 49 = h6 49), (by rw [eh6]; rfl : h6 49 = h4 49), (by rw [eh4]; rfl : h4 49 = hk 49), (frlhk 49 (by decide) : hk 49 = hi 49)] : h16 49 = hi 49) (by rw [(by rw [eh16]; rfl : h16 39 24 = h14 39 24), (by rw [eh14]; rfl : h14 39 24 = h12 39 24), (by rw [eh12]; rfl : h12 39 24 = h8 39 24), (by rw [eh8]; rfl : h8 39 24 = h6 39 24), (by rw [eh6]; rfl : h6 39 24 = h4 39 24), (by rw [eh4]; rfl : h4 39 24 = hk 39 24), (congrFun (frlhk 39 (by decide)) 24 : hk 39 24 = hi 39 24)] : h16 39 24 = hi 39 24), by rw [(by rw [(by rw [eh16]; rfl : h16 39 24 = h14 39 24), (by rw [eh14]; rfl : h14 39 24 = h12 39 24), (by rw [eh12]; rfl : h12 39 24 = h8 39 24), (by rw [eh8]; rfl : h8 39 24 = h6 39 24), (by rw [eh6]; rfl : h6 39 24 = h4 39 24), (by rw [eh4]; rfl : h4 39 24 = hk 39 24), (congrFun (frlhk 39 (by decide)) 24 : hk 39 24 = hi 39 24)] : h16 39 24 = hi 39 24)]; exact b24, qg.1, fb1⟩, fun v17 h18 eh18 => ?_⟩
        have frh18 : Fr [51, 52] hi h18 := (Fr.call frh16 eh18.1 (by decide))
        have vg := eh18.2
        rw [qg.2 _ (lifeF (hi 40) k) (fun j hj => w51 j (by rw [if_neg (by decide)] at hj; omega))] at vg
        have vb := qg.1 (lifeF (hi 40) k)
        have fb2 : FBm h18 := fun j hj => by rw [show h18 51 = h16 51 from eh18.1 51 (by decide)]; exact fb1 j hj
        refine z_if_eq (pc := 97) (tgt := 117) dX8_askLives_97 (by decide) ⟨by omega, by omega⟩ (fun c19 => ?_) (fun c19 => ?_)
        · refine z_iconst (pc := 117) (v := 0) dX8_askLives_117 rfl ?_
          refine z_iadd (pc := 118) dX8_askLives_118 (fun v20 ev20 => ?_)
          refine z_istore_n (pc := 119) (lv' := [(2, AI v20), (3, AI k), (0, AR 40), (1, AI b)]) dX8_askLives_119 rfl (by decide) rfl ?_
          refine z_iinc (pc := 120) (j := 1) (w := fun q => (3, AI q) :: [(2, AI v20), (0, AR 40), (1, AI b)]) dX8_askLives_120 rfl (by decide) (fun _ => rfl) (fun v21 ev21 => ?_)
          refine z_goto (pc := 123) (tgt := 4) dX8_askLives_123 (by decide) ?_
          exact ih4 v20 v21 h18 (by omega) (by first | (exfalso; omega) | exact sm_step (g := fun z => if g (lifeF (hi 40) z) = 1 then (if b = 1 then wO (hi 40) z else 1) else 0) (by omega) (by omega) i1 (by (repeat (first | rw [if_pos (by omega)] | rw [if_neg (by omega)])); first | done | omega)) (fb2) (frh18) (by omega)
        · refine z_iload_n (pc := 100) dX8_askLives_100 rfl 3 rfl ?_
          refine z_if_eq (pc := 101) (tgt := 113) dX8_askLives_101 (by decide) ⟨by omega, by omega⟩ (fun c22 => ?_) (fun c22 => ?_)
          · refine z_iconst (pc := 113) (v := 1) dX8_askLives_113 rfl ?_
            refine z_goto (pc := 114) (tgt := 118) dX8_askLives_114 (by decide) ?_
            refine z_iadd (pc := 118) dX8_askLives_118 (fun v23 ev23 => ?_)
            refine z_istore_n (pc := 119) (lv' := [(2, AI v23), (3, AI k), (0, AR 40), (1, AI b)]) dX8_askLives_119 rfl (by decide) rfl ?_
            refine z_iinc (pc := 120) (j := 1) (w := fun q => (3, AI q) :: [(2, AI v23), (0, AR 40), (1, AI b)]) dX8_askLives_120 rfl (by decide) (fun _ => rfl) (fun v24 ev24 => ?_)
            refine z_goto (pc := 123) (tgt := 4) dX8_askLives_123 (by decide) ?_
            exact ih4 v23 v24 h18 (by omega) (by first | (exfalso; omega) | exact sm_step (g := fun z => if g (lifeF (hi 40) z) = 1 then (if b = 1 then wO (hi 40) z else 1) else 0) (by omega) (by omega) i1 (by (repeat (first | rw [if_pos (by omega)] | rw [if_neg (by omega)])); first | done | omega)) (fb2) (frh18) (by omega)
          · refine z_aload_n (pc := 104) (x := 40) dX8_askLives_104 rfl 2 rfl ?_
            refine z_iload_n (pc := 105) dX8_askLives_105 rfl 0 rfl ?_
            refine z_iconst (pc := 106) (v := 3) dX8_askLives_106 rfl ?_
            refine z_callV (pc := 107) (kc := kX8_its) (n := 2) (pl := 39) (ci := 7) (C := RX8) (As := [AI k, AI 3]) (stk := [AI acc]) ct_X8_its (gdV rfl rfl (iw13 _ (List.mem_of_getElem? (i := 0) rfl)) (iw13 _ (List.mem_of_getElem? (i := 1) rfl)) (iw13 _ (List.mem_of_getElem? (i := 2) rfl)) (iw1 _ (List.mem_of_getElem? (i := 5) rfl)) (iw13 _ (List.mem_of_getElem? (i := 3) rfl))) rfl ⟨rfl, rfl⟩ (by decide +kernel) ⟨by decide, by decide⟩ (by decide) rfl rfl dX8_askLives_107 rfl rfl (Nat.le_of_ble_eq_true rfl) ?_
            refine ⟨_, _, rfl, ⟨by omega, by decide, by decide⟩, fun v25 ev25 => ?_⟩
            try rw [(eh18.1 40 (by decide) : h18 40 = h16 40), (by rw [eh16]; rfl : h16 40 = h14 40), (by rw [eh14]; rfl : h14 40 = h12 40), (by rw [eh12]; rfl : h12 40 = h8 40), (by rw [eh8]; rfl : h8 40 = h6 40), (by rw [eh6]; rfl : h6 40 = h4 40), (by rw [eh4]; rfl : h4 40 = hk 40), (frlhk 40 (by decide) : hk 40 = hi 40)] at ev25
            replace ev25 : v25 = wO (hi 40) k ∧ inR v25 := ev25
            refine z_goto (pc := 110) (tgt := 118) dX8_askLives_110 (by decide) ?_
            refine z_iadd (pc := 118) dX8_askLives_118 (fun v26 ev26 => ?_)
            refine z_istore_n (pc := 119) (lv' := [(2, AI v26), (3, AI k), (0, AR 40), (1, AI b)]) dX8_askLives_119 rfl (by decide) rfl ?_
            refine z_iinc (pc := 120) (j := 1) (w := fun q => (3, AI q) :: [(2, AI v26), (0, AR 40), (1, AI b)]) dX8_askLives_120 rfl (by decide) (fun _ => rfl) (fun v27 ev27 => ?_)
            refine z_goto (pc := 123) (tgt := 4) dX8_askLives_123 (by decide) ?_
            exact ih4 v26 v27 h18 (by omega) (by first | (exfalso; omega) | exact sm_step (g := fun z => if g (lifeF (hi 40) z) = 1 then (if b = 1 then wO (hi 40) z else 1) else 0) (by omega) (by omega) i1 (by (repeat (first | rw [if_pos (by omega)] | rw [if_neg (by omega)])); first | done | omega)) (fb2) (frh18) (by omega)
  exact J4 _ 0 0 hi (by omega) (sm_0 rfl rfl) (fb) ((Fr.rf)) (Nat.lt_succ_self _)

abbrev kX8_askHours : Kd := (cX8_askHours, .code yX8_askHours cX8_askHours 7 (some .int) :: wsL_law0, rmL 4, RX8, (some .int), 7)
theorem ct_X8_askHours : Ct kX8_askHours yX8_askHours (fun a hi Q => ∃ b : Int, ∃ g : Ex, a = [AR 40, AI b] ∧ (RI (hi 40) (hi 40 0) ∧ CM hi [g] ∧ hi 39 24 ≤ 600 ∧ QG 1 g ∧ FBm hi ∧ (b = 0 ∨ b = 1)) ∧ ∀ (v : Int) (h2 : HI), (Fr [51, 52] hi h2 ∧ (v = (if b = 1 then (rwL (fun h => g (hourF (hi 40) (hi 40 0) h)) 64).2 else sm (fun h => if g (hourF (hi 40) (hi 40 0) h) = 1 then 1 else 0) 64) ∧ FBm h2)) → Q (AI v) h2) := by
  refine Ct.of (ws' := _) (by decide +kernel) rfl rfl ?_
  intro a hi Q hT
  obtain ⟨b, g, rfl, hpre, hQ⟩ := hT
  refine ⟨Nat.le_of_ble_eq_true rfl, ?_⟩
  show Z kX8_askHours Q 0 [(0, AR 40), (1, AI b)] [] hi
  obtain ⟨ri, cg, b24, qg, fb, hb⟩ := hpre
  have n40 := ri.1
  refine z_iconst (pc := 0) (v := 0) dX8_askHours_0 rfl ?_
  refine z_istore_n (pc := 1) (lv' := [(2, AI 0), (0, AR 40), (1, AI b)]) dX8_askHours_1 rfl (by decide) rfl ?_
  refine z_iconst (pc := 2) (v := 0) dX8_askHours_2 rfl ?_
  refine z_istore_n (pc := 3) (lv' := [(3, AI 0), (2, AI 0), (0, AR 40), (1, AI b)]) dX8_askHours_3 rfl (by decide) rfl ?_
  refine z_iconst (pc := 4) (v := 0) dX8_askHours_4 rfl ?_
  refine z_istore (pc := 5) (lv' := [(4, AI 0), (3, AI 0), (2, AI 0), (0, AR 40), (1, AI b)]) dX8_askHours_5 (by decide) rfl ?_
  refine z_iconst (pc := 7) (v := 0) dX8_askHours_7 rfl ?_
  refine z_istore (pc := 8) (lv' := [(5, AI 0), (4, AI 0), (3, AI 0), (2, AI 0), (0, AR 40), (1, AI b)]) dX8_askHours_8 (by decide) rfl ?_
  have J10 : ∀ (N : Nat) (acc lon row h : Int) (hk : HI), ((0 ≤ h ∧ h ≤ 64) ∧ (0 ≤ row ∧ row ≤ h) ∧ (0 ≤ lon ∧ lon ≤ h)) → (acc = sm (fun h => if g (hourF (hi 40) (hi 40 0) h) = 1 then 1 else 0) h.toNat) → ((row, lon) = rwL (fun h => g (hourF (hi 40) (hi 40 0) h)) h.toNat) → (FBm hk) → (Fr [51, 52] hi hk) → ((64 - h).toNat) < N → Z kX8_askHours Q 10 [(5, AI h), (4, AI row), (3, AI lon), (2, AI acc), (0, AR 40), (1, AI b)] [] hk := by
    intro N
    induction N with
    | zero => intro acc lon row h hk _ _ _ _ _ _; exact absurd (by assumption) (Nat.not_lt_zero _)
    | succ N ih10 =>
      intro acc lon row h hk i0 i1 i1b i3 frlhk hm10
      have f5 := i3 5 (by decide)
      have ab : 0 ≤ acc ∧ acc ≤ h := by rw [i1]; exact smH (by omega)
      refine z_iload (pc := 10) dX8_askHours_10 0 rfl ?_
      refine z_bipush (pc := 12) (v := 64) dX8_askHours_12 (by decide +kernel) ?_
      refine z_icmp_ge (pc := 14) (tgt := 134) dX8_askHours_14 (by decide) ⟨by omega, by omega⟩ ⟨by decide, by decide⟩ (fun c1 => ?_) (fun c1 => ?_)
      · refine z_iload_n (pc := 134) dX8_askHours_134 rfl 5 rfl ?_
        refine z_if_eq (pc := 135) (tgt := 142) dX8_askHours_135 (by decide) ⟨by omega, by omega⟩ (fun c2 => ?_) (fun c2 => ?_)
        · refine z_iload_n (pc := 142) dX8_askHours_142 rfl 3 rfl ?_
          refine z_iret (pc := 143) rfl dX8_askHours_143 ?_
          exact hQ acc hk ⟨frlhk, by first | (exfalso; omega) | exact ⟨by rw [if_pos (by omega), show (64 : Nat) = h.toNat by omega, ← i1b], i3⟩ | exact ⟨by rw [if_neg (by omega), show (64 : Nat) = h.toNat by omega, i1], i3⟩⟩
        · refine z_iload_n (pc := 138) dX8_askHours_138 rfl 2 rfl ?_
          refine z_goto (pc := 139) (tgt := 143) dX8_askHours_139 (by decide) ?_
          refine z_iret (pc := 143) rfl dX8_askHours_143 ?_
          exact hQ lon hk ⟨frlhk, by first | (exfalso; omega) | exact ⟨by rw [if_pos (by omega), show (64 : Nat) = h.toNat by omega, ← i1b], i3⟩ | exact ⟨by rw [if_neg (by omega), show (64 : Nat) = h.toNat by omega, i1], i3⟩⟩
      · refine z_aload_n (pc := 17) (x := 40) dX8_askHours_17 rfl 4 rfl ?_
        refine z_getR (pc := 18) (pl := 39) (f := 29) (ci := 7) (C := RX8) (T := TX8) (N := 33) hu_X8 (by decide) rfl rfl (by decide) rfl (List.mem_cons_of_mem _ (iw5 _ (List.mem_of_getElem? (i := 17) rfl))) rfl dX8_askHours_18 ?_
        refine z_iconst (pc := 21) (v := 0) dX8_askHours_21 rfl ?_
        refine z_iload (pc := 22) dX8_askHours_22 0 rfl ?_
        refine z_iast (pc := 24) (pl := 51) (by decide) rfl (by decide) (by decide) (by decide) ⟨by omega, by omega⟩ dX8_askHours_24 (fun h3 eh3 => ?_)
        replace eh3 : h3 = hput hk 51 (updI (hk 51) 0 h) := eh3
        have frh3 : Fr [51, 52] hi h3 := (Fr.put frlhk eh3 (by decide))
        refine z_aload_n (pc := 25) (x := 40) dX8_askHours_25 rfl 4 rfl ?_
        refine z_getR (pc := 26) (pl := 39) (f := 29) (ci := 7) (C := RX8) (T := TX8) (N := 33) hu_X8 (by decide) rfl rfl (by decide) rfl (List.mem_cons_of_mem _ (iw5 _ (List.mem_of_getElem? (i := 17) rfl))) rfl dX8_askHours_26 ?_
        refine z_iconst (pc := 29) (v := 1) dX8_askHours_29 rfl ?_
        refine z_aload_n (pc := 30) (x := 40) dX8_askHours_30 rfl 4 rfl ?_
        refine z_iload (pc := 31) dX8_askHours_31 0 rfl ?_
        refine z_callV (pc := 33) (kc := kX8_countAt) (n := 1) (pl := 39) (ci := 7) (C := RX8) (As := [AI h]) (stk := [AI 1, AR 52]) ct_X8_countAt (gdV rfl rfl (iw38 _ (List.mem_of_getElem? (i := 19) rfl)) (iw38 _ (List.mem_of_getElem? (i := 20) rfl)) (iw38 _ (List.mem_of_getElem? (i := 21) rfl)) (iw1 _ (List.mem_of_getElem? (i := 5) rfl)) (iw38 _ (List.mem_of_getElem? (i := 22) rfl))) rfl ⟨rfl, rfl⟩ (by decide +kernel) ⟨by decide, by decide⟩ (by decide) rfl rfl dX8_askHours_33 rfl rfl (Nat.le_of_ble_eq_true rfl) ?_
        refine ⟨_, rfl, ⟨by rw [(by rw [(by rw [eh3]; rfl : h3 40 = hk 40), (frlhk 40 (by decide) : hk 40 = hi 40)] : h3 40 = hi 40)]; exact ri, ⟨by omega, by omega⟩⟩, fun v4 ev4 => ?_⟩
        try rw [(by rw [eh3]; rfl : h3 40 = hk 40), (frlhk 40 (by decide) : hk 40 = hi 40)] at ev4
        have q36 := cnt_rng (h := h) ri
        have w36 : v4 = cntA (hi 40) (hi 40 0) h := ev4
        rw [← ev4] at q36
        refine z_iast (pc := 36) (pl := 51) (by decide) rfl (by decide) (by decide) (by decide) ⟨by omega, by omega⟩ dX8_askHours_36 (fun h5 eh5 => ?_)
        replace eh5 : h5 = hput h3 51 (updI (h3 51) 1 v4) := eh5
        have frh5 : Fr [51, 52] hi h5 := (Fr.put frh3 eh5 (by decide))
        refine z_aload_n (pc := 37) (x := 40) dX8_askHours_37 rfl 4 rfl ?_
        refine z_getR (pc := 38) (pl := 39) (f := 29) (ci := 7) (C := RX8) (T := TX8) (N := 33) hu_X8 (by decide) rfl rfl (by decide) rfl (List.mem_cons_of_mem _ (iw5 _ (List.mem_of_getElem? (i := 17) rfl))) rfl dX8_askHours_38 ?_
        refine z_iconst (pc := 41) (v := 2) dX8_askHours_41 rfl ?_
        refine z_aload_n (pc := 42) (x := 40) dX8_askHours_42 rfl 4 rfl ?_
        refine z_iload (pc := 43) dX8_askHours_43 0 rfl ?_
        refine z_iconst (pc := 45) (v := 0) dX8_askHours_45 rfl ?_
        refine z_sipush (pc := 46) (v := 999) dX8_askHours_46 (by decide +kernel) ?_
        refine z_callV (pc := 49) (kc := kX8_sumAt) (n := 3) (pl := 39) (ci := 7) (C := RX8) (As := [AI h, AI 0, AI 999]) (stk := [AI 2, AR 52]) ct_X8_sumAt (gdV rfl rfl (iw38 _ (List.mem_of_getElem? (i := 23) rfl)) (iw39 _ (List.mem_of_getElem? (i := 0) rfl)) (iw39 _ (List.mem_of_getElem? (i := 1) rfl)) (iw1 _ (List.mem_of_getElem? (i := 5) rfl)) (iw39 _ (List.mem_of_getElem? (i := 2) rfl))) rfl ⟨rfl, rfl⟩ (by decide +kernel) ⟨by decide, by decide⟩ (by decide) rfl rfl dX8_askHours_49 rfl rfl (Nat.le_of_ble_eq_true rfl) ?_
        refine ⟨_, _, _, rfl, ⟨by rw [(by rw [(by rw [eh5]; rfl : h5 40 = h3 40), (by rw [eh3]; rfl : h3 40 = hk 40), (frlhk 40 (by decide) : hk 40 = hi 40)] : h5 40 = hi 40)]; exact ri, ⟨by omega, by omega⟩, ⟨by omega, by omega⟩, ⟨by omega, by omega⟩⟩, fun v6 ev6 => ?_⟩
        try rw [(by rw [eh5]; rfl : h5 40 = h3 40), (by rw [eh3]; rfl : h3 40 = hk 40), (frlhk 40 (by decide) : hk 40 = hi 40)] at ev6
        have q49 := wor_rng (h := h) ri
        have w49 : v6 = worA (hi 40) (hi 40 0) h := ev6
        rw [← ev6] at q49
        refine z_iast (pc := 52) (pl := 51) (by decide) rfl (by decide) (by decide) (by decide) ⟨by omega, by omega⟩ dX8_askHours_52 (fun h7 eh7 => ?_)
        replace eh7 : h7 = hput h5 51 (updI (h5 51) 2 v6) := eh7
        have frh7 : Fr [51, 52] hi h7 := (Fr.put frh5 eh7 (by decide))
        refine z_aload_n (pc := 53) (x := 40) dX8_askHours_53 rfl 4 rfl ?_
        refine z_getR (pc := 54) (pl := 39) (f := 29) (ci := 7) (C := RX8) (T := TX8) (N := 33) hu_X8 (by decide) rfl rfl (by decide) rfl (List.mem_cons_of_mem _ (iw5 _ (List.mem_of_getElem? (i := 17) rfl))) rfl dX8_askHours_54 ?_
        refine z_iconst (pc := 57) (v := 3) dX8_askHours_57 rfl ?_
        refine z_aload_n (pc := 58) (x := 40) dX8_askHours_58 rfl 4 rfl ?_
        refine z_iconst (pc := 59) (v := 0) dX8_askHours_59 rfl ?_
        refine z_iload (pc := 60) dX8_askHours_60 0 rfl ?_
        refine z_callV (pc := 62) (kc := kX8_leastFrom) (n := 2) (pl := 39) (ci := 7) (C := RX8) (As := [AI 0, AI h]) (stk := [AI 3, AR 52]) ct_X8_leastFrom (gdV rfl rfl (iw39 _ (List.mem_of_getElem? (i := 3) rfl)) (iw39 _ (List.mem_of_getElem? (i := 4) rfl)) (iw39 _ (List.mem_of_getElem? (i := 5) rfl)) (iw1 _ (List.mem_of_getElem? (i := 5) rfl)) (iw39 _ (List.mem_of_getElem? (i := 6) rfl))) rfl ⟨rfl, rfl⟩ (by decide +kernel) ⟨by decide, by decide⟩ (by decide) rfl rfl dX8_askHours_62 rfl rfl (Nat.le_of_ble_eq_true rfl) ?_
        refine ⟨_, _, rfl, ⟨by rw [(by rw [(by rw [eh7]; rfl : h7 40 = h5 40), (by rw [eh5]; rfl : h5 40 = h3 40), (by rw [eh3]; rfl : h3 40 = hk 40), (frlhk 40 (by decide) : hk 40 = hi 40)] : h7 40 = hi 40)]; exact ri, ⟨by omega, by omega⟩, ⟨by omega, by omega⟩⟩, fun v8 ev8 => ?_⟩
        try rw [(by rw [eh7]; rfl : h7 40 = h5 40), (by rw [eh5]; rfl : h5 40 = h3 40), (by rw [eh3]; rfl : h3 40 = hk 40), (frlhk 40 (by decide) : hk 40 = hi 40)] at ev8
        obtain ⟨r62, w62⟩ := vk (d := 0) ev8
        clear ev8
        refine z_iast (pc := 65) (pl := 51) (by decide) rfl (by decide) (by decide) (by decide) ⟨by omega, by omega⟩ dX8_askHours_65 (fun h9 eh9 => ?_)
        replace eh9 : h9 = hput h7 51 (updI (h7 51) 3 v8) := eh9
        have frh9 : Fr [51, 52] hi h9 := (Fr.put frh7 eh9 (by decide))
        refine z_aload_n (pc := 66) (x := 40) dX8_askHours_66 rfl 4 rfl ?_
        refine z_getR (pc := 67) (pl := 39) (f := 29) (ci := 7) (C := RX8) (T := TX8) (N := 33) hu_X8 (by decide) rfl rfl (by decide) rfl (List.mem_cons_of_mem _ (iw5 _ (List.mem_of_getElem? (i := 17) rfl))) rfl dX8_askHours_67 ?_
        refine z_iconst (pc := 70) (v := 4) dX8_askHours_70 rfl ?_
        refine z_aload_n (pc := 71) (x := 40) dX8_askHours_71 rfl 4 rfl ?_
        refine z_sipush (pc := 72) (v := 999) dX8_askHours_72 (by decide +kernel) ?_
        refine z_iload (pc := 75) dX8_askHours_75 0 rfl ?_
        refine z_callV (pc := 77) (kc := kX8_greatestTo) (n := 2) (pl := 39) (ci := 7) (C := RX8) (As := [AI 999, AI h]) (stk := [AI 4, AR 52]) ct_X8_greatestTo (gdV rfl rfl (iw39 _ (List.mem_of_getElem? (i := 7) rfl)) (iw39 _ (List.mem_of_getElem? (i := 8) rfl)) (iw39 _ (List.mem_of_getElem? (i := 9) rfl)) (iw1 _ (List.mem_of_getElem? (i := 5) rfl)) (iw39 _ (List.mem_of_getElem? (i := 10) rfl))) rfl ⟨rfl, rfl⟩ (by decide +kernel) ⟨by decide, by decide⟩ (by decide) rfl rfl dX8_askHours_77 rfl rfl (Nat.le_of_ble_eq_true rfl) ?_
        refine ⟨_, _, rfl, ⟨by rw [(by rw [(by rw [eh9]; rfl : h9 40 = h7 40), (by rw [eh7]; rfl : h7 40 = h5 40), (by rw [eh5]; rfl : h5 40 = h3 40), (by rw [eh3]; rfl : h3 40 = hk 40), (frlhk 40 (by decide) : hk 40 = hi 40)] : h9 40 = hi 40)]; exact ri, ⟨by omega, by omega⟩, ⟨by omega, by omega⟩⟩, fun v10 ev10 => ?_⟩
        try rw [(by rw [eh9]; rfl : h9 40 = h7 40), (by rw [eh7]; rfl : h7 40 = h5 40), (by rw [eh5]; rfl : h5 40 = h3 40), (by rw [eh3]; rfl : h3 40 = hk 40), (frlhk 40 (by decide) : hk 40 = hi 40)] at ev10
        obtain ⟨r77, w77⟩ := vk (d := 0) ev10
        clear ev10
        refine z_iast (pc := 80) (pl := 51) (by decide) rfl (by decide) (by decide) (by decide) ⟨by omega, by omega⟩ dX8_askHours_80 (fun h11 eh11 => ?_)
        replace eh11 : h11 = hput h9 51 (updI (h9 51) 4 v10) := eh11
        have frh11 : Fr [51, 52] hi h11 := (Fr.put frh9 eh11 (by decide))
        have w51 : ∀ j : Nat, j < 5 → h11 51 j = hourF (hi 40) (hi 40 0) h j := five (P := fun j => h11 51 j = hourF (hi 40) (hi 40 0) h j) (by rw [(by rw [(by rw [eh11]; rfl : h11 51 0 = h9 51 0), (by rw [eh9]; rfl : h9 51 0 = h7 51 0), (by rw [eh7]; rfl : h7 51 0 = h5 51 0), (by rw [eh5]; rfl : h5 51 0 = h3 51 0), (by rw [eh3]; rfl : h3 51 0 = h)] : h11 51 0 = h)]; rfl) (by rw [(by rw [(by rw [eh11]; rfl : h11 51 1 = h9 51 1), (by rw [eh9]; rfl : h9 51 1 = h7 51 1), (by rw [eh7]; rfl : h7 51 1 = h5 51 1), (by rw [eh5]; rfl : h5 51 1 = v4)] : h11 51 1 = v4)]; exact w36) (by rw [(by rw [(by rw [eh11]; rfl : h11 51 2 = h9 51 2), (by rw [eh9]; rfl : h9 51 2 = h7 51 2), (by rw [eh7]; rfl : h7 51 2 = v6)] : h11 51 2 = v6)]; exact w49) (by rw [(by rw [(by rw [eh11]; rfl : h11 51 3 = h9 51 3), (by rw [eh9]; rfl : h9 51 3 = v8)] : h11 51 3 = v8)]; exact lsF_eq w62) (by rw [(by rw [(by rw [eh11]; rfl : h11 51 4 = v10)] : h11 51 4 = v10)]; exact grF_eq w77)
        have fb1 : FBm h11 := six (P := fun j => -4000 ≤ h11 51 j ∧ h11 51 j ≤ 4000) (by rw [(by rw [(by rw [eh11]; rfl : h11 51 0 = h9 51 0), (by rw [eh9]; rfl : h9 51 0 = h7 51 0), (by rw [eh7]; rfl : h7 51 0 = h5 51 0), (by rw [eh5]; rfl : h5 51 0 = h3 51 0), (by rw [eh3]; rfl : h3 51 0 = h)] : h11 51 0 = h)]; omega) (by rw [(by rw [(by rw [eh11]; rfl : h11 51 1 = h9 51 1), (by rw [eh9]; rfl : h9 51 1 = h7 51 1), (by rw [eh7]; rfl : h7 51 1 = h5 51 1), (by rw [eh5]; rfl : h5 51 1 = v4)] : h11 51 1 = v4)]; omega) (by rw [(by rw [(by rw [eh11]; rfl : h11 51 2 = h9 51 2), (by rw [eh9]; rfl : h9 51 2 = h7 51 2), (by rw [eh7]; rfl : h7 51 2 = v6)] : h11 51 2 = v6)]; omega) (by rw [(by rw [(by rw [eh11]; rfl : h11 51 3 = h9 51 3), (by rw [eh9]; rfl : h9 51 3 = v8)] : h11 51 3 = v8)]; omega) (by rw [(by rw [(by rw [eh11]; rfl : h11 51 4 = v10)] : h11 51 4 = v10)]; omega) (by rw [(by rw [(by rw [eh11]; rfl : h11 51 5 = h9 51 5), (by rw [eh9]; rfl : h9 51 5 = h7 51 5), (by rw [eh7]; rfl : h7 51 5 = h5 51 5), (by rw [eh5]; rfl : h5 51 5 = h3 51 5), (by rw [eh3]; rfl : h3 51 5 = hk 51 5)] : h11 51 5 = hk 51 5)]; omega)
        refine z_aload_n (pc := 81) (x := 40) dX8_askHours_81 rfl 4 rfl ?_
        refine z_callV (pc := 82) (kc := kX8_holds) (n := 0) (pl := 39) (ci := 7) (C := RX8) (As := []) (stk := []) ct_X8_holds (gdV rfl rfl (iw39 _ (List.mem_of_getElem? (i := 11) rfl)) (iw39 _ (List.mem_of_getElem? (i := 12) rfl)) (iw39 _ (List.mem_of_getElem? (i := 13) rfl)) (iw1 _ (List.mem_of_getElem? (i := 5) rfl)) (iw39 _ (List.mem_of_getElem? (i := 14) rfl))) rfl ⟨rfl, rfl⟩ (by decide +kernel) ⟨by decide, by decide⟩ (by decide) rfl rfl dX8_askHours_82 rfl rfl (Nat.le_of_ble_eq_true rfl) ?_
        refine ⟨g, rfl, ⟨cg.kp (by rw [(by rw [eh11]; rfl : h11 49 = h9 49), (by rw [eh9]; rfl : h9 49 = h7 49), (by rw [eh7]; rfl : h7 49 = h5 49), (by rw [eh5]; rfl : h5 49 = h3 49), (by rw [eh3]; rfl : h3 49 = hk 49), (frlhk 49 (by decide) : hk 49 = hi 49)] : h11 49 = hi 49) (by rw [(by rw [eh11]; rfl : h11 39 24 = h9 39 24), (by rw [eh9]; rfl : h9 39 24 = h7 39 24), (by rw [eh7]; rfl : h7 39 24 = h5 39 24), (by rw [eh5]; rfl : h5 39 24 = h3 39 24), (by rw [eh3]; rfl : h3 39 24 = hk 39 24), (congrFun (frlhk 39 (by decide)) 24 : hk 39 24 = hi 39 24)] : h11 39 24 = hi 39 24), by rw [(by rw [(by rw [eh11]; rfl : h11 39 24 = h9 39 24), (by rw [eh9]; rfl : h9 39 24 = h7 39 24), (by rw [eh7]; rfl : h7 39 24 = h5 39 24), (by rw [eh5]; rfl : h5 39 24 = h3 39 24), (by rw [eh3]; rfl : h3 39 24 = hk 39 24), (congrFun (frlhk 39 (by decide)) 24 : hk 39 24 = hi 39 24)] : h11 39 24 = hi 39 24)]; exact b24, qg.1, fb1⟩, fun v12 h13 eh13 => ?_⟩
        have frh13 : Fr [51, 52] hi h13 := (Fr.call frh11 eh13.1 (by decide))
        have vg := eh13.2
        rw [qg.2 _ (hourF (hi 40) (hi 40 0) h) (fun j hj => w51 j (by rw [if_pos rfl] at hj; omega))] at vg
        have vb := qg.1 (hourF (hi 40) (hi 40 0) h)
        have fb2 : FBm h13 := fun j hj => by rw [show h13 51 = h11 51 from eh13.1 51 (by decide)]; exact fb1 j hj
        refine z_istore (pc := 85) (lv' := [(6, AI v12), (5, AI h), (4, AI row), (3, AI lon), (2, AI acc), (0, AR 40), (1, AI b)]) dX8_askHours_85 (by decide) rfl ?_
        refine z_iload_n (pc := 87) dX8_askHours_87 rfl 4 rfl ?_
        refine z_iload (pc := 88) dX8_askHours_88 0 rfl ?_
        refine z_if_eq (pc := 90) (tgt := 97) dX8_askHours_90 (by decide) ⟨by omega, by omega⟩ (fun c14 => ?_) (fun c14 => ?_)
        · refine z_iconst (pc := 97) (v := 0) dX8_askHours_97 rfl ?_
          refine z_iadd (pc := 98) dX8_askHours_98 (fun v15 ev15 => ?_)
          refine z_istore_n (pc := 99) (lv' := [(2, AI v15), (6, AI v12), (5, AI h), (4, AI row), (3, AI lon), (0, AR 40), (1, AI b)]) dX8_askHours_99 rfl (by decide) rfl ?_
          refine z_iload (pc := 100) dX8_askHours_100 1 rfl ?_
          refine z_if_eq (pc := 102) (tgt := 112) dX8_askHours_102 (by decide) ⟨by omega, by omega⟩ (fun c16 => ?_) (fun c16 => ?_)
          · refine z_iconst (pc := 112) (v := 0) dX8_askHours_112 rfl ?_
            refine z_istore (pc := 113) (lv' := [(4, AI 0), (2, AI v15), (6, AI v12), (5, AI h), (3, AI lon), (0, AR 40), (1, AI b)]) dX8_askHours_113 (by decide) rfl ?_
            refine z_iload (pc := 115) dX8_askHours_115 0 rfl ?_
            refine z_iload_n (pc := 117) dX8_askHours_117 rfl 4 rfl ?_
            refine z_icmp_le (pc := 118) (tgt := 126) dX8_askHours_118 (by decide) ⟨by decide, by decide⟩ ⟨by omega, by omega⟩ (fun c17 => ?_) (fun c17 => ?_)
            · refine z_iload_n (pc := 126) dX8_askHours_126 rfl 4 rfl ?_
              refine z_istore_n (pc := 127) (lv' := [(3, AI lon), (4, AI 0), (2, AI v15), (6, AI v12), (5, AI h), (0, AR 40), (1, AI b)]) dX8_askHours_127 rfl (by decide) rfl ?_
              refine z_iinc (pc := 128) (j := 4) (w := fun q => (5, AI q) :: [(3, AI lon), (4, AI 0), (2, AI v15), (6, AI v12), (0, AR 40), (1, AI b)]) dX8_askHours_128 rfl (by decide) (fun _ => rfl) (fun v18 ev18 => ?_)
              refine z_goto (pc := 131) (tgt := 10) dX8_askHours_131 (by decide) ?_
              refine z_sub (lv' := [(5, AI v18), (4, AI 0), (3, AI lon), (2, AI v15), (0, AR 40), (1, AI b)]) [0, 2, 1, 3, 5, 6] rfl ?_
              exact ih10 v15 lon 0 v18 h13 (by omega) (by first | (exfalso; omega) | exact sm_step (g := (fun h => if g (hourF (hi 40) (hi 40 0) h) = 1 then 1 else 0)) (by omega) (by omega) i1 (by (repeat (first | rw [if_pos (by omega)] | rw [if_neg (by omega)])); first | done | omega)) (by first | (exfalso; omega) | exact rwL_step (by omega) (by omega) i1b (by (repeat (first | rw [if_pos (by omega)] | rw [if_neg (by omega)])); first | done | omega) (by split <;> omega)) (fb2) (frh13) (by omega)
            · refine z_iload (pc := 121) dX8_askHours_121 0 rfl ?_
              refine z_goto (pc := 123) (tgt := 127) dX8_askHours_123 (by decide) ?_
              refine z_istore_n (pc := 127) (lv' := [(3, AI 0), (4, AI 0), (2, AI v15), (6, AI v12), (5, AI h), (0, AR 40), (1, AI b)]) dX8_askHours_127 rfl (by decide) rfl ?_
              refine z_iinc (pc := 128) (j := 4) (w := fun q => (5, AI q) :: [(3, AI 0), (4, AI 0), (2, AI v15), (6, AI v12), (0, AR 40), (1, AI b)]) dX8_askHours_128 rfl (by decide) (fun _ => rfl) (fun v19 ev19 => ?_)
              refine z_goto (pc := 131) (tgt := 10) dX8_askHours_131 (by decide) ?_
              refine z_sub (lv' := [(5, AI v19), (4, AI 0), (3, AI 0), (2, AI v15), (0, AR 40), (1, AI b)]) [0, 2, 1, 3, 5, 6] rfl ?_
              exact ih10 v15 0 0 v19 h13 (by omega) (by first | (exfalso; omega) | exact sm_step (g := (fun h => if g (hourF (hi 40) (hi 40 0) h) = 1 then 1 else 0)) (by omega) (by omega) i1 (by (repeat (first | rw [if_pos (by omega)] | rw [if_neg (by omega)])); first | done | omega)) (by first | (exfalso; omega) | exact rwL_step (by omega) (by omega) i1b (by (repeat (first | rw [if_pos (by omega)] | rw [if_neg (by omega)])); first | done | omega) (by split <;> omega)) (fb2) (frh13) (by omega)
          · refine z_iload (pc := 105) dX8_askHours_105 3 rfl ?_
            refine z_iconst (pc := 107) (v := 1) dX8_askHours_107 rfl ?_
            refine z_iadd (pc := 108) dX8_askHours_108 (fun v20 ev20 => ?_)
            refine z_goto (pc := 109) (tgt := 113) dX8_askHours_109 (by decide) ?_
            refine z_istore (pc := 113) (lv' := [(4, AI v20), (2, AI v15), (6, AI v12), (5, AI h), (3, AI lon), (0, AR 40), (1, AI b)]) dX8_askHours_113 (by decide) rfl ?_
            refine z_iload (pc := 115) dX8_askHours_115 0 rfl ?_
            refine z_iload_n (pc := 117) dX8_askHours_117 rfl 4 rfl ?_
            refine z_icmp_le (pc := 118) (tgt := 126) dX8_askHours_118 (by decide) ⟨by omega, by omega⟩ ⟨by omega, by omega⟩ (fun c21 => ?_) (fun c21 => ?_)
            · refine z_iload_n (pc := 126) dX8_askHours_126 rfl 4 rfl ?_
              refine z_istore_n (pc := 127) (lv' := [(3, AI lon), (4, AI v20), (2, AI v15), (6, AI v12), (5, AI h), (0, AR 40), (1, AI b)]) dX8_askHours_127 rfl (by decide) rfl ?_
              refine z_iinc (pc := 128) (j := 4) (w := fun q => (5, AI q) :: [(3, AI lon), (4, AI v20), (2, AI v15), (6, AI v12), (0, AR 40), (1, AI b)]) dX8_askHours_128 rfl (by decide) (fun _ => rfl) (fun v22 ev22 => ?_)
              refine z_goto (pc := 131) (tgt := 10) dX8_askHours_131 (by decide) ?_
              refine z_sub (lv' := [(5, AI v22), (4, AI v20), (3, AI lon), (2, AI v15), (0, AR 40), (1, AI b)]) [0, 2, 1, 3, 5, 6] rfl ?_
              exact ih10 v15 lon v20 v22 h13 (by omega) (by first | (exfalso; omega) | exact sm_step (g := (fun h => if g (hourF (hi 40) (hi 40 0) h) = 1 then 1 else 0)) (by omega) (by omega) i1 (by (repeat (first | rw [if_pos (by omega)] | rw [if_neg (by omega)])); first | done | omega)) (by first | (exfalso; omega) | exact rwL_step (by omega) (by omega) i1b (by (repeat (first | rw [if_pos (by omega)] | rw [if_neg (by omega)])); first | done | omega) (by split <;> omega)) (fb2) (frh13) (by omega)
            · refine z_iload (pc := 121) dX8_askHours_121 0 rfl ?_
              refine z_goto (pc := 123) (tgt := 127) dX8_askHours_123 (by decide) ?_
              refine z_istore_n (pc := 127) (lv' := [(3, AI v20), (4, AI v20), (2, AI v15), (6, AI v12), (5, AI h), (0, AR 40), (1, AI b)]) dX8_askHours_127 rfl (by decide) rfl ?_
              refine z_iinc (pc := 128) (j := 4) (w := fun q => (5, AI q) :: [(3, AI v20), (4, AI v20), (2, AI v15), (6, AI v12), (0, AR 40), (1, AI b)]) dX8_askHours_128 rfl (by decide) (fun _ => rfl) (fun v23 ev23 => ?_)
              refine z_goto (pc := 131) (tgt := 10) dX8_askHours_131 (by decide) ?_
              refine z_sub (lv' := [(5, AI v23), (4, AI v20), (3, AI v20), (2, AI v15), (0, AR 40), (1, AI b)]) [0, 2, 1, 3, 5, 6] rfl ?_
              exact ih10 v15 v20 v20 v23 h13 (by omega) (by first | (exfalso; omega) | exact sm_step (g := (fun h => if g (hourF (hi 40) (hi 40 0) h) = 1 then 1 else 0)) (by omega) (by omega) i1 (by (repeat (first | rw [if_pos (by omega)] | rw [if_neg (by omega)])); first | done | omega)) (by first | (exfalso; omega) | exact rwL_step (by omega) (by omega) i1b (by (repeat (first | rw [if_pos (by omega)] | rw [if_neg (by omega)])); first | done | omega) (by split <;> omega)) (fb2) (frh13) (by omega)
        · refine z_iconst (pc := 93) (v := 1) dX8_askHours_93 rfl ?_
          refine z_goto (pc := 94) (tgt := 98) dX8_askHours_94 (by decide) ?_
          refine z_iadd (pc := 98) dX8_askHours_98 (fun v24 ev24 => ?_)
          refine z_istore_n (pc := 99) (lv' := [(2, AI v24), (6, AI v12), (5, AI h), (4, AI row), (3, AI lon), (0, AR 40), (1, AI b)]) dX8_askHours_99 rfl (by decide) rfl ?_
          refine z_iload (pc := 100) dX8_askHours_100 1 rfl ?_
          refine z_if_eq (pc := 102) (tgt := 112) dX8_askHours_102 (by decide) ⟨by omega, by omega⟩ (fun c25 => ?_) (fun c25 => ?_)
          · refine z_iconst (pc := 112) (v := 0) dX8_askHours_112 rfl ?_
            refine z_istore (pc := 113) (lv' := [(4, AI 0), (2, AI v24), (6, AI v12), (5, AI h), (3, AI lon), (0, AR 40), (1, AI b)]) dX8_askHours_113 (by decide) rfl ?_
            refine z_iload (pc := 115) dX8_askHours_115 0 rfl ?_
            refine z_iload_n (pc := 117) dX8_askHours_117 rfl 4 rfl ?_
            refine z_icmp_le (pc := 118) (tgt := 126) dX8_askHours_118 (by decide) ⟨by decide, by decide⟩ ⟨by omega, by omega⟩ (fun c26 => ?_) (fun c26 => ?_)
            · refine z_iload_n (pc := 126) dX8_askHours_126 rfl 4 rfl ?_
              refine z_istore_n (pc := 127) (lv' := [(3, AI lon), (4, AI 0), (2, AI v24), (6, AI v12), (5, AI h), (0, AR 40), (1, AI b)]) dX8_askHours_127 rfl (by decide) rfl ?_
              refine z_iinc (pc := 128) (j := 4) (w := fun q => (5, AI q) :: [(3, AI lon), (4, AI 0), (2, AI v24), (6, AI v12), (0, AR 40), (1, AI b)]) dX8_askHours_128 rfl (by decide) (fun _ => rfl) (fun v27 ev27 => ?_)
              refine z_goto (pc := 131) (tgt := 10) dX8_askHours_131 (by decide) ?_
              refine z_sub (lv' := [(5, AI v27), (4, AI 0), (3, AI lon), (2, AI v24), (0, AR 40), (1, AI b)]) [0, 2, 1, 3, 5, 6] rfl ?_
              exact ih10 v24 lon 0 v27 h13 (by omega) (by first | (exfalso; omega) | exact sm_step (g := (fun h => if g (hourF (hi 40) (hi 40 0) h) = 1 then 1 else 0)) (by omega) (by omega) i1 (by (repeat (first | rw [if_pos (by omega)] | rw [if_neg (by omega)])); first | done | omega)) (by first | (exfalso; omega) | exact rwL_step (by omega) (by omega) i1b (by (repeat (first | rw [if_pos (by omega)] | rw [if_neg (by omega)])); first | done | omega) (by split <;> omega)) (fb2) (frh13) (by omega)
            · refine z_iload (pc := 121) dX8_askHours_121 0 rfl ?_
              refine z_goto (pc := 123) (tgt := 127) dX8_askHours_123 (by decide) ?_
              refine z_istore_n (pc := 127) (lv' := [(3, AI 0), (4, AI 0), (2, AI v24), (6, AI v12), (5, AI h), (0, AR 40), (1, AI b)]) dX8_askHours_127 rfl (by decide) rfl ?_
              refine z_iinc (pc := 128) (j := 4) (w := fun q => (5, AI q) :: [(3, AI 0), (4, AI 0), (2, AI v24), (6, AI v12), (0, AR 40), (1, AI b)]) dX8_askHours_128 rfl (by decide) (fun _ => rfl) (fun v28 ev28 => ?_)
              refine z_goto (pc := 131) (tgt := 10) dX8_askHours_131 (by decide) ?_
              refine z_sub (lv' := [(5, AI v28), (4, AI 0), (3, AI 0), (2, AI v24), (0, AR 40), (1, AI b)]) [0, 2, 1, 3, 5, 6] rfl ?_
              exact ih10 v24 0 0 v28 h13 (by omega) (by first | (exfalso; omega) | exact sm_step (g := (fun h => if g (hourF (hi 40) (hi 40 0) h) = 1 then 1 else 0)) (by omega) (by omega) i1 (by (repeat (first | rw [if_pos (by omega)] | rw [if_neg (by omega)])); first | done | omega)) (by first | (exfalso; omega) | exact rwL_step (by omega) (by omega) i1b (by (repeat (first | rw [if_pos (by omega)] | rw [if_neg (by omega)])); first | done | omega) (by split <;> omega)) (fb2) (frh13) (by omega)
          · refine z_iload (pc := 105) dX8_askHours_105 3 rfl ?_
            refine z_iconst (pc := 107) (v := 1) dX8_askHours_107 rfl ?_
            refine z_iadd (pc := 108) dX8_askHours_108 (fun v29 ev29 => ?_)
            refine z_goto (pc := 109) (tgt := 113) dX8_askHours_109 (by decide) ?_
            refine z_istore (pc := 113) (lv' := [(4, AI v29), (2, AI v24), (6, AI v12), (5, AI h), (3, AI lon), (0, AR 40), (1, AI b)]) dX8_askHours_113 (by decide) rfl ?_
            refine z_iload (pc := 115) dX8_askHours_115 0 rfl ?_
            refine z_iload_n (pc := 117) dX8_askHours_117 rfl 4 rfl ?_
            refine z_icmp_le (pc := 118) (tgt := 126) dX8_askHours_118 (by decide) ⟨by omega, by omega⟩ ⟨by omega, by omega⟩ (fun c30 => ?_) (fun c30 => ?_)
            · refine z_iload_n (pc := 126) dX8_askHours_126 rfl 4 rfl ?_
              refine z_istore_n (pc := 127) (lv' := [(3, AI lon), (4, AI v29), (2, AI v24), (6, AI v12), (5, AI h), (0, AR 40), (1, AI b)]) dX8_askHours_127 rfl (by decide) rfl ?_
              refine z_iinc (pc := 128) (j := 4) (w := fun q => (5, AI q) :: [(3, AI lon), (4, AI v29), (2, AI v24), (6, AI v12), (0, AR 40), (1, AI b)]) dX8_askHours_128 rfl (by decide) (fun _ => rfl) (fun v31 ev31 => ?_)
              refine z_goto (pc := 131) (tgt := 10) dX8_askHours_131 (by decide) ?_
              refine z_sub (lv' := [(5, AI v31), (4, AI v29), (3, AI lon), (2, AI v24), (0, AR 40), (1, AI b)]) [0, 2, 1, 3, 5, 6] rfl ?_
              exact ih10 v24 lon v29 v31 h13 (by omega) (by first | (exfalso; omega) | exact sm_step (g := (fun h => if g (hourF (hi 40) (hi 40 0) h) = 1 then 1 else 0)) (by omega) (by omega) i1 (by (repeat (first | rw [if_pos (by omega)] | rw [if_neg (by omega)])); first | done | omega)) (by first | (exfalso; omega) | exact rwL_step (by omega) (by omega) i1b (by (repeat (first | rw [if_pos (by omega)] | rw [if_neg (by omega)])); first | done | omega) (by split <;> omega)) (fb2) (frh13) (by omega)
            · refine z_iload (pc := 121) dX8_askHours_121 0 rfl ?_
              refine z_goto (pc := 123) (tgt := 127) dX8_askHours_123 (by decide) ?_
              refine z_istore_n (pc := 127) (lv' := [(3, AI v29), (4, AI v29), (2, AI v24), (6, AI v12), (5, AI h), (0, AR 40), (1, AI b)]) dX8_askHours_127 rfl (by decide) rfl ?_
              refine z_iinc (pc := 128) (j := 4) (w := fun q => (5, AI q) :: [(3, AI v29), (4, AI v29), (2, AI v24), (6, AI v12), (0, AR 40), (1, AI b)]) dX8_askHours_128 rfl (by decide) (fun _ => rfl) (fun v32 ev32 => ?_)
              refine z_goto (pc := 131) (tgt := 10) dX8_askHours_131 (by decide) ?_
              refine z_sub (lv' := [(5, AI v32), (4, AI v29), (3, AI v29), (2, AI v24), (0, AR 40), (1, AI b)]) [0, 2, 1, 3, 5, 6] rfl ?_
              exact ih10 v24 v29 v29 v32 h13 (by omega) (by first | (exfalso; omega) | exact sm_step (g := (fun h => if g (hourF (hi 40) (hi 40 0) h) = 1 then 1 else 0)) (by omega) (by omega) i1 (by (repeat (first | rw [if_pos (by omega)] | rw [if_neg (by omega)])); first | done | omega)) (by first | (exfalso; omega) | exact rwL_step (by omega) (by omega) i1b (by (repeat (first | rw [if_pos (by omega)] | rw [if_neg (by omega)])); first | done | omega) (by split <;> omega)) (fb2) (frh13) (by omega)
  exact J10 _ 0 0 0 0 hi (by omega) (sm_0 rfl rfl) (rfl) (fb) ((Fr.rf)) (Nat.lt_succ_self _)

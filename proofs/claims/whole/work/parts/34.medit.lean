def SpM (hi h2 : HI) (x b d w v : Int) : Prop := (v = 1 ∧ ¬ ((0 ≤ x ∧ x ≤ 999) ∧ (0 ≤ b ∧ b < 64) ∧ (0 ≤ w ∧ w ≤ 99) ∧ b < d ∧ d ≤ 64) ∧ NoC hi h2) ∨ (((0 ≤ x ∧ x ≤ 999) ∧ (0 ≤ b ∧ b < 64) ∧ (0 ≤ w ∧ w ≤ 99) ∧ b < d ∧ d ≤ 64) ∧ EdM hi h2 x (-1) b d w v)
theorem bec_pus {B h h2 : HI} (F : Fr [41] B h) (b : Bec h h2) : Pus B h2 := by
  obtain ⟨b1, b2, b3⟩ := b
  rw [F 39 (by decide)] at b1
  rw [F 39 (by decide), F 42 (by decide), F 40 (by decide)] at b3
  exact ⟨b1, b3⟩
theorem bec_put {B h h2 : HI} {g : Nat → Int} {n x k b d w : Int} (F : Fr [41] B h) (b0 : Bec h h2) (p : PutM g n x k b d w (h 41) n k) (hn : n ≤ 40) : PutM g n x k b d w (h2 40) n k := by
  have c := cpy_same (f := h 41) (g := h 40)
  rw [← b0.2.1] at c
  obtain ⟨q1, q2, q3, q4, q5, q6⟩ := p
  exact ⟨q1, q2, c.1.trans q3, c.2.1.trans q4, (c.2.2 k q1.1 (by omega)).sy.ent q5, fun z z0 z1 zk => (c.2.2 z z0 (by omega)).tr (q6 z z0 z1 zk)⟩
theorem und_39 {hi h1 h2 h3 : HI} {v u s : Int} {t : Nat} (z1 : h1 = Z0 hi) (w21 : h2 = hput h1 39 (updI (h1 39) 6 v)) (w41 : h3 = hput h2 40 (cpyI (hi 42) (hi 40) s.toNat t 166)) (e : u = v) : h3 39 = updI ((Z0 hi) 39) 6 u := by
  rw [w41, hput_ne _ _ (by decide), w21, hput_same, z1, e]
theorem und_40 {hi h2 h3 : HI} {u s : Int} (w41 : h3 = hput h2 40 (cpyI (hi 42) (hi 40) s.toNat (Int.toNat 0) 166)) (e : s = 166 * u) : h3 40 = cpyI (hi 42) (hi 40) (166 * u).toNat 0 166 := by
  rw [w41, hput_same, e]; rfl
theorem kep_1 {hi h1 h2 h3 : HI} {k s : Int} (z1 : h1 = Z0 hi) (w48 : h2 = hput h1 40 (cpyI (hi 43) (hi 40) s.toNat (Int.toNat 0) 166)) (w53 : h3 = hput h2 39 (updI (h2 39) 6 0)) (e : s = 166 * k) : h3 39 = updI ((Z0 hi) 39) 6 0 ∧ h3 40 = cpyI (hi 43) (hi 40) (166 * k).toNat 0 166 ∧ h3 43 = hi 43 ∧ h3 44 = hi 44 := by
  subst e
  exact ⟨by rw [w53, hput_same, w48, hput_ne _ _ (by decide), z1], by rw [w53, hput_ne _ _ (by decide), w48, hput_same]; rfl, by rw [w53, hput_ne _ _ (by decide), w48, hput_ne _ _ (by decide), z1]; rfl, by rw [w53, hput_ne _ _ (by decide), w48, hput_ne _ _ (by decide), z1]; rfl⟩
theorem kep_0 {hi h1 h2 h3 : HI} {k s : Int} (z1 : h1 = Z0 hi) (w73 : h2 = hput h1 43 (cpyI (hi 40) (hi 43) (Int.toNat 0) s.toNat 166)) (w82 : h3 = hput h2 44 (updI (h2 44) k.toNat 1)) (e : s = 166 * k) : h3 39 = (Z0 hi) 39 ∧ h3 40 = hi 40 ∧ h3 43 = cpyI (hi 40) (hi 43) 0 (166 * k).toNat 166 ∧ h3 44 = updI (hi 44) k.toNat 1 := by
  subst e
  exact ⟨by rw [w82, hput_ne _ _ (by decide), w73, hput_ne _ _ (by decide), z1], by rw [w82, hput_ne _ _ (by decide), w73, hput_ne _ _ (by decide), z1]; rfl, by rw [w82, hput_ne _ _ (by decide), w73, hput_same]; rfl, by rw [w82, hput_same, w73, hput_ne _ _ (by decide), z1]; rfl⟩
abbrev kX8_born : Kd := (cX8_born, .code yX8_born cX8_born 4 (some .int) :: wsL_law0, rmL 7, RX8, (some .int), 4)
theorem ct_X8_born : Ct kX8_born yX8_born (fun a hi Q => ∃ x : Int, ∃ b : Int, ∃ w : Int, a = [AR 40, AI x, AI b, AI w] ∧ (MI hi ∧ inR x ∧ inR b ∧ inR w) ∧ ∀ (v : Int) (h2 : HI), (Fr [39, 40, 41, 42] hi h2 ∧ (SpM (Z0 hi) h2 x b 64 w v)) → Q (AI v) h2) := by
  refine Ct.of (ws' := _) (by decide +kernel) rfl rfl ?_
  intro a hi Q hT
  obtain ⟨x, b, w, rfl, hpre, hQ⟩ := hT
  refine ⟨Nat.le_of_ble_eq_true rfl, ?_⟩
  show Z kX8_born Q 0 [(0, AR 40), (1, AI x), (2, AI b), (3, AI w)] [] hi
  refine z_aload_n (pc := 0) (x := 40) dX8_born_0 rfl 0 rfl ?_
  refine z_iconst (pc := 1) (v := 0) dX8_born_1 rfl ?_
  refine z_putI (pc := 2) (pl := 39) (f := 0) (ci := 7) (C := RX8) (T := TX8) (N := 33) hu_X8 tyX8_ok nmX8 (by decide) rfl rfl (by decide) rfl (List.mem_cons_of_mem _ (iw8 _ (List.mem_of_getElem? (i := 22) rfl))) rfl rfl (ty := .int) (by decide +kernel) rfl rfl ⟨by decide, by decide⟩ dX8_born_2 (fun h1 eh1 => ?_)
  have frh1 : Fr [39, 40, 41, 42] hi h1 := (Fr.put (Fr.rf) eh1 (by decide))
  have z1 : h1 = Z0 hi := eh1
  have mi1 : MI h1 := by rw [z1]; exact hpre.1.z0
  refine z_aload_n (pc := 5) (x := 40) dX8_born_5 rfl 0 rfl ?_
  refine z_iload_n (pc := 6) dX8_born_6 rfl 1 rfl ?_
  refine z_iload_n (pc := 7) dX8_born_7 rfl 2 rfl ?_
  refine z_bipush (pc := 8) (v := 64) dX8_born_8 (by decide +kernel) ?_
  refine z_iload_n (pc := 10) dX8_born_10 rfl 3 rfl ?_
  refine z_callV (pc := 11) (kc := kX8_comes) (n := 4) (pl := 39) (ci := 7) (C := RX8) (As := [AI x, AI b, AI 64, AI w]) (stk := []) ct_X8_comes (gdV rfl rfl (iw8 _ (List.mem_of_getElem? (i := 23) rfl)) (iw9 _ (List.mem_of_getElem? (i := 0) rfl)) (iw9 _ (List.mem_of_getElem? (i := 1) rfl)) (iw1 _ (List.mem_of_getElem? (i := 5) rfl)) (iw9 _ (List.mem_of_getElem? (i := 2) rfl))) rfl ⟨rfl, rfl⟩ (by decide +kernel) ⟨by decide, by decide⟩ (by decide) rfl rfl dX8_born_11 rfl rfl (Nat.le_of_ble_eq_true rfl) ?_
  refine ⟨_, _, _, _, rfl, ⟨mi1, hpre.2.1, hpre.2.2.1, ⟨by decide, by decide⟩, hpre.2.2.2⟩, fun v2 h3 eh3 => ?_⟩
  have frh3 : Fr [39, 40, 41, 42] hi h3 := (Fr.call frh1 eh3.1 (by decide))
  try rw [(by rw [eh1]; rfl : h1 40 = hi 40)] at eh3
  try rw [(by rw [eh1]; rfl : h1 41 = hi 41)] at eh3
  try rw [(by rw [eh1]; rfl : h1 42 = hi 42)] at eh3
  have w11 := eh3.2
  refine z_iret (pc := 14) rfl dX8_born_14 ?_
  exact hQ v2 h3 ⟨frh3, by rw [← z1]; exact w11⟩

abbrev kX8_span : Kd := (cX8_span, .code yX8_span cX8_span 5 (some .int) :: wsL_law0, rmL 7, RX8, (some .int), 5)
theorem ct_X8_span : Ct kX8_span yX8_span (fun a hi Q => ∃ x : Int, ∃ b : Int, ∃ d : Int, ∃ w : Int, a = [AR 40, AI x, AI b, AI d, AI w] ∧ (MI hi ∧ inR x ∧ inR b ∧ inR d ∧ inR w) ∧ ∀ (v : Int) (h2 : HI), (Fr [39, 40, 41, 42] hi h2 ∧ (SpM (Z0 hi) h2 x b d w v)) → Q (AI v) h2) := by
  refine Ct.of (ws' := _) (by decide +kernel) rfl rfl ?_
  intro a hi Q hT
  obtain ⟨x, b, d, w, rfl, hpre, hQ⟩ := hT
  refine ⟨Nat.le_of_ble_eq_true rfl, ?_⟩
  show Z kX8_span Q 0 [(0, AR 40), (1, AI x), (2, AI b), (3, AI d), (4, AI w)] [] hi
  refine z_aload_n (pc := 0) (x := 40) dX8_span_0 rfl 0 rfl ?_
  refine z_iconst (pc := 1) (v := 0) dX8_span_1 rfl ?_
  refine z_putI (pc := 2) (pl := 39) (f := 0) (ci := 7) (C := RX8) (T := TX8) (N := 33) hu_X8 tyX8_ok nmX8 (by decide) rfl rfl (by decide) rfl (List.mem_cons_of_mem _ (iw8 _ (List.mem_of_getElem? (i := 22) rfl))) rfl rfl (ty := .int) (by decide +kernel) rfl rfl ⟨by decide, by decide⟩ dX8_span_2 (fun h1 eh1 => ?_)
  have frh1 : Fr [39, 40, 41, 42] hi h1 := (Fr.put (Fr.rf) eh1 (by decide))
  have z1 : h1 = Z0 hi := eh1
  have mi1 : MI h1 := by rw [z1]; exact hpre.1.z0
  refine z_aload_n (pc := 5) (x := 40) dX8_span_5 rfl 0 rfl ?_
  refine z_iload_n (pc := 6) dX8_span_6 rfl 1 rfl ?_
  refine z_iload_n (pc := 7) dX8_span_7 rfl 2 rfl ?_
  refine z_iload_n (pc := 8) dX8_span_8 rfl 3 rfl ?_
  refine z_iload (pc := 9) dX8_span_9 4 rfl ?_
  refine z_callV (pc := 11) (kc := kX8_comes) (n := 4) (pl := 39) (ci := 7) (C := RX8) (As := [AI x, AI b, AI d, AI w]) (stk := []) ct_X8_comes (gdV rfl rfl (iw8 _ (List.mem_of_getElem? (i := 23) rfl)) (iw9 _ (List.mem_of_getElem? (i := 0) rfl)) (iw9 _ (List.mem_of_getElem? (i := 1) rfl)) (iw1 _ (List.mem_of_getElem? (i := 5) rfl)) (iw9 _ (List.mem_of_getElem? (i := 2) rfl))) rfl ⟨rfl, rfl⟩ (by decide +kernel) ⟨by decide, by decide⟩ (by decide) rfl rfl dX8_span_11 rfl rfl (Nat.le_of_ble_eq_true rfl) ?_
  refine ⟨_, _, _, _, rfl, ⟨mi1, hpre.2⟩, fun v2 h3 eh3 => ?_⟩
  have frh3 : Fr [39, 40, 41, 42] hi h3 := (Fr.call frh1 eh3.1 (by decide))
  try rw [(by rw [eh1]; rfl : h1 40 = hi 40)] at eh3
  try rw [(by rw [eh1]; rfl : h1 41 = hi 41)] at eh3
  try rw [(by rw [eh1]; rfl : h1 42 = hi 42)] at eh3
  have w11 := eh3.2
  refine z_iret (pc := 14) rfl dX8_span_14 ?_
  exact hQ v2 h3 ⟨frh3, by rw [← z1]; exact w11⟩

abbrev kX8_died : Kd := (cX8_died, .code yX8_died cX8_died 3 (some .int) :: wsL_law0, rmL 7, RX8, (some .int), 3)
theorem ct_X8_died : Ct kX8_died yX8_died (fun a hi Q => ∃ x : Int, ∃ h : Int, a = [AR 40, AI x, AI h] ∧ (MI hi ∧ inR x ∧ inR h) ∧ ∀ (v : Int) (h2 : HI), (Fr [39, 40, 41, 42] hi h2 ∧ ((v = 1 ∧ ¬ ((0 ≤ x ∧ x ≤ 999) ∧ (0 ≤ h ∧ h < 64)) ∧ NoC (Z0 hi) h2) ∨ (((0 ≤ x ∧ x ≤ 999) ∧ (0 ≤ h ∧ h < 64)) ∧ ∃ k : Int, Fst (fun z => nO (hi 40) z = x ∧ al (hi 40) z h) (hi 40 0) k ∧ ((k < 0 ∧ v = 2 ∧ NoC (Z0 hi) h2) ∨ (0 ≤ k ∧ EdM (Z0 hi) h2 x k (bO (hi 40) k) h (wO (hi 40) k) v))))) → Q (AI v) h2) := by
  refine Ct.of (ws' := _) (by decide +kernel) rfl rfl ?_
  intro a hi Q hT
  obtain ⟨x, h, rfl, hpre, hQ⟩ := hT
  refine ⟨Nat.le_of_ble_eq_true rfl, ?_⟩
  show Z kX8_died Q 0 [(0, AR 40), (1, AI x), (2, AI h)] [] hi
  refine z_aload_n (pc := 0) (x := 40) dX8_died_0 rfl 0 rfl ?_
  refine z_iconst (pc := 1) (v := 0) dX8_died_1 rfl ?_
  refine z_putI (pc := 2) (pl := 39) (f := 0) (ci := 7) (C := RX8) (T := TX8) (N := 33) hu_X8 tyX8_ok nmX8 (by decide) rfl rfl (by decide) rfl (List.mem_cons_of_mem _ (iw8 _ (List.mem_of_getElem? (i := 22) rfl))) rfl rfl (ty := .int) (by decide +kernel) rfl rfl ⟨by decide, by decide⟩ dX8_died_2 (fun h1 eh1 => ?_)
  have frh1 : Fr [39, 40, 41, 42] hi h1 := (Fr.put (Fr.rf) eh1 (by decide))
  have z1 : h1 = Z0 hi := eh1
  have mi1 : MI h1 := by rw [z1]; exact hpre.1.z0
  refine z_aload_n (pc := 5) (x := 40) dX8_died_5 rfl 0 rfl ?_
  refine z_iload_n (pc := 6) dX8_died_6 rfl 1 rfl ?_
  refine z_iload_n (pc := 7) dX8_died_7 rfl 2 rfl ?_
  refine z_iconst (pc := 8) (v := 0) dX8_died_8 rfl ?_
  refine z_callV (pc := 9) (kc := kX8_ends) (n := 3) (pl := 39) (ci := 7) (C := RX8) (As := [AI x, AI h, AI 0]) (stk := []) ct_X8_ends (gdV rfl rfl (iw12 _ (List.mem_of_getElem? (i := 20) rfl)) (iw12 _ (List.mem_of_getElem? (i := 21) rfl)) (iw12 _ (List.mem_of_getElem? (i := 22) rfl)) (iw1 _ (List.mem_of_getElem? (i := 5) rfl)) (iw12 _ (List.mem_of_getElem? (i := 23) rfl))) rfl ⟨rfl, rfl⟩ (by decide +kernel) ⟨by decide, by decide⟩ (by decide) rfl rfl dX8_died_9 rfl rfl (Nat.le_of_ble_eq_true rfl) ?_
  refine ⟨_, _, _, rfl, ⟨mi1, hpre.2.1, hpre.2.2, by decide⟩, fun v2 h3 eh3 => ?_⟩
  have frh3 : Fr [39, 40, 41, 42] hi h3 := (Fr.call frh1 eh3.1 (by decide))
  try rw [(by rw [eh1]; rfl : h1 40 = hi 40)] at eh3
  try rw [(by rw [eh1]; rfl : h1 41 = hi 41)] at eh3
  try rw [(by rw [eh1]; rfl : h1 42 = hi 42)] at eh3
  have w9 := eh3.2
  refine z_iret (pc := 12) rfl dX8_died_12 ?_
  exact hQ v2 h3 ⟨frh3, by rw [← z1]; exact w9⟩

abbrev kX8_unborn : Kd := (cX8_unborn, .code yX8_unborn cX8_unborn 3 (some .int) :: wsL_law0, rmL 7, RX8, (some .int), 3)
theorem ct_X8_unborn : Ct kX8_unborn yX8_unborn (fun a hi Q => ∃ x : Int, ∃ h : Int, a = [AR 40, AI x, AI h] ∧ (MI hi ∧ inR x ∧ inR h) ∧ ∀ (v : Int) (h2 : HI), (Fr [39, 40, 41, 42] hi h2 ∧ ((v = 1 ∧ ¬ ((0 ≤ x ∧ x ≤ 999) ∧ (0 ≤ h ∧ h < 64)) ∧ NoC (Z0 hi) h2) ∨ (((0 ≤ x ∧ x ≤ 999) ∧ (0 ≤ h ∧ h < 64)) ∧ ∃ k : Int, Fst (fun z => nO (hi 40) z = x ∧ al (hi 40) z h) (hi 40 0) k ∧ ((k < 0 ∧ v = 2 ∧ NoC (Z0 hi) h2) ∨ (0 ≤ k ∧ EdM (Z0 hi) h2 x k (bO (hi 40) k) (bO (hi 40) k) (wO (hi 40) k) v))))) → Q (AI v) h2) := by
  refine Ct.of (ws' := _) (by decide +kernel) rfl rfl ?_
  intro a hi Q hT
  obtain ⟨x, h, rfl, hpre, hQ⟩ := hT
  refine ⟨Nat.le_of_ble_eq_true rfl, ?_⟩
  show Z kX8_unborn Q 0 [(0, AR 40), (1, AI x), (2, AI h)] [] hi
  refine z_aload_n (pc := 0) (x := 40) dX8_unborn_0 rfl 0 rfl ?_
  refine z_iconst (pc := 1) (v := 0) dX8_unborn_1 rfl ?_
  refine z_putI (pc := 2) (pl := 39) (f := 0) (ci := 7) (C := RX8) (T := TX8) (N := 33) hu_X8 tyX8_ok nmX8 (by decide) rfl rfl (by decide) rfl (List.mem_cons_of_mem _ (iw8 _ (List.mem_of_getElem? (i := 22) rfl))) rfl rfl (ty := .int) (by decide +kernel) rfl rfl ⟨by decide, by decide⟩ dX8_unborn_2 (fun h1 eh1 => ?_)
  have frh1 : Fr [39, 40, 41, 42] hi h1 := (Fr.put (Fr.rf) eh1 (by decide))
  have z1 : h1 = Z0 hi := eh1
  have mi1 : MI h1 := by rw [z1]; exact hpre.1.z0
  refine z_aload_n (pc := 5) (x := 40) dX8_unborn_5 rfl 0 rfl ?_
  refine z_iload_n (pc := 6) dX8_unborn_6 rfl 1 rfl ?_
  refine z_iload_n (pc := 7) dX8_unborn_7 rfl 2 rfl ?_
  refine z_iconst (pc := 8) (v := 1) dX8_unborn_8 rfl ?_
  refine z_callV (pc := 9) (kc := kX8_ends) (n := 3) (pl := 39) (ci := 7) (C := RX8) (As := [AI x, AI h, AI 1]) (stk := []) ct_X8_ends (gdV rfl rfl (iw12 _ (List.mem_of_getElem? (i := 20) rfl)) (iw12 _ (List.mem_of_getElem? (i := 21) rfl)) (iw12 _ (List.mem_of_getElem? (i := 22) rfl)) (iw1 _ (List.mem_of_getElem? (i := 5) rfl)) (iw12 _ (List.mem_of_getElem? (i := 23) rfl))) rfl ⟨rfl, rfl⟩ (by decide +kernel) ⟨by decide, by decide⟩ (by decide) rfl rfl dX8_unborn_9 rfl rfl (Nat.le_of_ble_eq_true rfl) ?_
  refine ⟨_, _, _, rfl, ⟨mi1, hpre.2.1, hpre.2.2, by decide⟩, fun v2 h3 eh3 => ?_⟩
  have frh3 : Fr [39, 40, 41, 42] hi h3 := (Fr.call frh1 eh3.1 (by decide))
  try rw [(by rw [eh1]; rfl : h1 40 = hi 40)] at eh3
  try rw [(by rw [eh1]; rfl : h1 41 = hi 41)] at eh3
  try rw [(by rw [eh1]; rfl : h1 42 = hi 42)] at eh3
  have w9 := eh3.2
  refine z_iret (pc := 12) rfl dX8_unborn_12 ?_
  exact hQ v2 h3 ⟨frh3, by rw [← z1]; exact w9⟩

abbrev kX8_revived : Kd := (cX8_revived, .code yX8_revived cX8_revived 4 (some .int) :: wsL_law0, rmL 6, RX8, (some .int), 4)
theorem ct_X8_revived : Ct kX8_revived yX8_revived (fun a hi Q => ∃ x : Int, ∃ h : Int, a = [AR 40, AI x, AI h] ∧ (MI hi ∧ inR x ∧ inR h) ∧ ∀ (v : Int) (h2 : HI), (Fr [39, 40, 41, 42] hi h2 ∧ ((v = 1 ∧ ¬ ((0 ≤ x ∧ x ≤ 999) ∧ (1 ≤ h ∧ h < 64)) ∧ NoC (Z0 hi) h2) ∨ (((0 ≤ x ∧ x ≤ 999) ∧ (1 ≤ h ∧ h < 64)) ∧ ∃ k : Int, Fst (fun z => nO (hi 40) z = x ∧ dO (hi 40) z = h) (hi 40 0) k ∧ ((k < 0 ∧ v = 2 ∧ NoC (Z0 hi) h2) ∨ (0 ≤ k ∧ EdM (Z0 hi) h2 x k (bO (hi 40) k) 64 (wO (hi 40) k) v))))) → Q (AI v) h2) := by
  refine Ct.of (ws' := _) (by decide +kernel) rfl rfl ?_
  intro a hi Q hT
  obtain ⟨x, h, rfl, hpre, hQ⟩ := hT
  refine ⟨Nat.le_of_ble_eq_true rfl, ?_⟩
  show Z kX8_revived Q 0 [(0, AR 40), (1, AI x), (2, AI h)] [] hi
  refine z_aload_n (pc := 0) (x := 40) dX8_revived_0 rfl 0 rfl ?_
  refine z_iconst (pc := 1) (v := 0) dX8_revived_1 rfl ?_
  refine z_putI (pc := 2) (pl := 39) (f := 0) (ci := 7) (C := RX8) (T := TX8) (N := 33) hu_X8 tyX8_ok nmX8 (by decide) rfl rfl (by decide) rfl (List.mem_cons_of_mem _ (iw8 _ (List.mem_of_getElem? (i := 22) rfl))) rfl rfl (ty := .int) (by decide +kernel) rfl rfl ⟨by decide, by decide⟩ dX8_revived_2 (fun h1 eh1 => ?_)
  have frh1 : Fr [39, 40, 41, 42] hi h1 := (Fr.put (Fr.rf) eh1 (by decide))
  have z1 : h1 = Z0 hi := eh1
  have mi1 : MI h1 := by rw [z1]; exact hpre.1.z0
  refine z_iload_n (pc := 5) dX8_revived_5 rfl 1 rfl ?_
  refine z_callS (pc := 6) (kc := kX8_isNumber) (n := 1) (As := [AI x]) (stk := []) ct_X8_isNumber (gdS rfl rfl (iw9 _ (List.mem_of_getElem? (i := 5) rfl)) (iw9 _ (List.mem_of_getElem? (i := 6) rfl)) (iw1 _ (List.mem_of_getElem? (i := 5) rfl)) (iw9 _ (List.mem_of_getElem? (i := 7) rfl))) rfl ⟨rfl, rfl⟩ (by decide +kernel) ⟨by decide, by decide⟩ dX8_revived_6 rfl rfl (Nat.le_of_ble_eq_true rfl) ?_
  refine ⟨_, rfl, by omega, fun v2 ev2 => ?_⟩
  refine z_if_eq (pc := 9) (tgt := 24) dX8_revived_9 (by decide) ⟨by omega, by omega⟩ (fun c3 => ?_) (fun c3 => ?_)
  · refine z_iconst (pc := 24) (v := 1) dX8_revived_24 rfl ?_
    refine z_iret (pc := 25) rfl dX8_revived_25 ?_
    exact hQ 1 h1 ⟨frh1, by rw [← z1]; first | exact Or.inl ⟨rfl, by omega, NoC.rf⟩ | exact Or.inr ⟨by omega, -1, Or.inr ⟨rfl, fun z z0 z2 => i1 z z0 (by omega)⟩, Or.inl ⟨by decide, rfl, NoC.rf⟩⟩ | exact Or.inr ⟨by omega, k, Or.inl ⟨by omega, by omega, by omega, i1⟩, Or.inr ⟨by omega, ed⟩⟩⟩
  · refine z_iload_n (pc := 12) dX8_revived_12 rfl 2 rfl ?_
    refine z_i2l (pc := 13) dX8_revived_13 ⟨by omega, by omega⟩ ?_
    refine z_lconst (pc := 14) (v := 1) dX8_revived_14 (by decide +kernel) ?_
    refine z_ldc2 (pc := 15) (v := 63) (x := 63) (List.mem_cons_of_mem _ (iw9 _ (List.mem_of_getElem? (i := 15) rfl))) (by decide +kernel) dX8_revived_15 ?_
    refine z_callS (pc := 18) (kc := kX8_within) (n := 3) (As := [AL h, AL 1, AL 63]) (stk := []) ct_X8_within (gdS rfl rfl (iw9 _ (List.mem_of_getElem? (i := 9) rfl)) (iw9 _ (List.mem_of_getElem? (i := 10) rfl)) (iw1 _ (List.mem_of_getElem? (i := 5) rfl)) (iw9 _ (List.mem_of_getElem? (i := 11) rfl))) rfl ⟨rfl, rfl⟩ (by decide +kernel) ⟨by decide, by decide⟩ dX8_revived_18 rfl rfl (Nat.le_of_ble_eq_true rfl) ?_
    refine ⟨_, _, _, rfl, ⟨⟨by omega, by omega⟩, ⟨by decide, by decide⟩, ⟨by decide, by decide⟩⟩, fun v4 ev4 => ?_⟩
    refine z_if_ne (pc := 21) (tgt := 26) dX8_revived_21 (by decide) ⟨by omega, by omega⟩ (fun c5 => ?_) (fun c5 => ?_)
    · refine z_iconst (pc := 26) (v := 0) dX8_revived_26 rfl ?_
      refine z_istore_n (pc := 27) (lv' := [(3, AI 0), (0, AR 40), (1, AI x), (2, AI h)]) dX8_revived_27 rfl (by decide) rfl ?_
      have n0 := hpre.1.1.1
      have J28 : ∀ (N : Nat) (k : Int), (0 ≤ k ∧ k ≤ hi 40 0) → (∀ z : Int, 0 ≤ z → z < k → ¬ (nO (hi 40) z = x ∧ dO (hi 40) z = h)) → ((hi 40 0 - k).toNat) < N → Z kX8_revived Q 28 [(3, AI k), (0, AR 40), (1, AI x), (2, AI h)] [] h1 := by
        intro N
        induction N with
        | zero => intro k _ _ _; exact absurd (by assumption) (Nat.not_lt_zero _)
        | succ N ih28 =>
          intro k i0 i1 hm28
          refine z_iload_n (pc := 28) dX8_revived_28 rfl 0 rfl ?_
          refine z_aload_n (pc := 29) (x := 40) dX8_revived_29 rfl 1 rfl ?_
          refine z_getR (pc := 30) (pl := 39) (f := 1) (ci := 7) (C := RX8) (T := TX8) (N := 33) hu_X8 (by decide) rfl rfl (by decide) rfl (List.mem_cons_of_mem _ (iw5 _ (List.mem_of_getElem? (i := 5) rfl))) rfl dX8_revived_30 ?_
          refine z_iconst (pc := 33) (v := 0) dX8_revived_33 rfl ?_
          refine z_iald (pc := 34) (pl := 40) (by decide) rfl (by decide) (by decide) (by decide) (by decide) dX8_revived_34 (fun v6 ev6 rv6 => ?_)
          rw [(by rw [eh1]; rfl : h1 40 = hi 40)] at ev6
          replace ev6 : v6 = hi 40 0 := ev6
          refine z_icmp_ge (pc := 35) (tgt := 103) dX8_revived_35 (by decide) ⟨by omega, by omega⟩ ⟨by omega, by omega⟩ (fun c7 => ?_) (fun c7 => ?_)
          · refine z_iconst (pc := 103) (v := 2) dX8_revived_103 rfl ?_
            refine z_iret (pc := 104) rfl dX8_revived_104 ?_
            exact hQ 2 h1 ⟨frh1, by rw [← z1]; first | exact Or.inl ⟨rfl, by omega, NoC.rf⟩ | exact Or.inr ⟨by omega, -1, Or.inr ⟨rfl, fun z z0 z2 => i1 z z0 (by omega)⟩, Or.inl ⟨by decide, rfl, NoC.rf⟩⟩ | exact Or.inr ⟨by omega, k, Or.inl ⟨by omega, by omega, by omega, i1⟩, Or.inr ⟨by omega, ed⟩⟩⟩
          · refine z_aload_n (pc := 38) (x := 40) dX8_revived_38 rfl 1 rfl ?_
            refine z_iload_n (pc := 39) dX8_revived_39 rfl 0 rfl ?_
            refine z_iconst (pc := 40) (v := 0) dX8_revived_40 rfl ?_
            refine z_callV (pc := 41) (kc := kX8_its) (n := 2) (pl := 39) (ci := 7) (C := RX8) (As := [AI k, AI 0]) (stk := []) ct_X8_its (gdV rfl rfl (iw13 _ (List.mem_of_getElem? (i := 0) rfl)) (iw13 _ (List.mem_of_getElem? (i := 1) rfl)) (iw13 _ (List.mem_of_getElem? (i := 2) rfl)) (iw1 _ (List.mem_of_getElem? (i := 5) rfl)) (iw13 _ (List.mem_of_getElem? (i := 3) rfl))) rfl ⟨rfl, rfl⟩ (by decide +kernel) ⟨by decide, by decide⟩ (by decide) rfl rfl dX8_revived_41 rfl rfl (Nat.le_of_ble_eq_true rfl) ?_
            refine ⟨_, _, rfl, by omega, fun v8 ev8 => ?_⟩
            try rw [(by rw [eh1]; rfl : h1 40 = hi 40)] at ev8
            replace ev8 : v8 = nO (hi 40) k ∧ inR v8 := ev8
            refine z_iload_n (pc := 44) dX8_revived_44 rfl 2 rfl ?_
            refine z_icmp_ne (pc := 45) (tgt := 97) dX8_revived_45 (by decide) ⟨by omega, by omega⟩ ⟨by omega, by omega⟩ (fun c9 => ?_) (fun c9 => ?_)
            · refine z_iinc (pc := 97) (j := 0) (w := fun q => (3, AI q) :: [(0, AR 40), (1, AI x), (2, AI h)]) dX8_revived_97 rfl (by decide) (fun _ => rfl) (fun v10 ev10 => ?_)
              refine z_goto (pc := 100) (tgt := 28) dX8_revived_100 (by decide) ?_
              exact ih28 v10 (by omega) (no_step i1 (by omega) (by omega)) (by omega)
            · refine z_aload_n (pc := 48) (x := 40) dX8_revived_48 rfl 1 rfl ?_
              refine z_iload_n (pc := 49) dX8_revived_49 rfl 0 rfl ?_
              refine z_iconst (pc := 50) (v := 2) dX8_revived_50 rfl ?_
              refine z_callV (pc := 51) (kc := kX8_its) (n := 2) (pl := 39) (ci := 7) (C := RX8) (As := [AI k, AI 2]) (stk := []) ct_X8_its (gdV rfl rfl (iw13 _ (List.mem_of_getElem? (i := 0) rfl)) (iw13 _ (List.mem_of_getElem? (i := 1) rfl)) (iw13 _ (List.mem_of_getElem? (i := 2) rfl)) (iw1 _ (List.mem_of_getElem? (i := 5) rfl)) (iw13 _ (List.mem_of_getElem? (i := 3) rfl))) rfl ⟨rfl, rfl⟩ (by decide +kernel) ⟨by decide, by decide⟩ (by decide) rfl rfl dX8_revived_51 rfl rfl (Nat.le_of_ble_eq_true rfl) ?_
              refine ⟨_, _, rfl, by omega, fun v11 ev11 => ?_⟩
              try rw [(by rw [eh1]; rfl : h1 40 = hi 40)] at ev11
              replace ev11 : v11 = dO (hi 40) k ∧ inR v11 := ev11
              refine z_iload_n (pc := 54) dX8_revived_54 rfl 3 rfl ?_
              refine z_icmp_ne (pc := 55) (tgt := 97) dX8_revived_55 (by decide) ⟨by omega, by omega⟩ ⟨by omega, by omega⟩ (fun c12 => ?_) (fun c12 => ?_)
              · refine z_iinc (pc := 97) (j := 0) (w := fun q => (3, AI q) :: [(0, AR 40), (1, AI x), (2, AI h)]) dX8_revived_97 rfl (by decide) (fun _ => rfl) (fun v13 ev13 => ?_)
                refine z_goto (pc := 100) (tgt := 28) dX8_revived_100 (by decide) ?_
                exact ih28 v13 (by omega) (no_step i1 (by omega) (by omega)) (by omega)
              · refine z_aload_n (pc := 58) (x := 40) dX8_revived_58 rfl 1 rfl ?_
                refine z_getR (pc := 59) (pl := 39) (f := 1) (ci := 7) (C := RX8) (T := TX8) (N := 33) hu_X8 (by decide) rfl rfl (by decide) rfl (List.mem_cons_of_mem _ (iw5 _ (List.mem_of_getElem? (i := 5) rfl))) rfl dX8_revived_59 ?_
                refine z_iconst (pc := 62) (v := 0) dX8_revived_62 rfl ?_
                refine z_aload_n (pc := 63) (x := 40) dX8_revived_63 rfl 1 rfl ?_
                refine z_getR (pc := 64) (pl := 39) (f := 2) (ci := 7) (C := RX8) (T := TX8) (N := 33) hu_X8 (by decide) rfl rfl (by decide) rfl (List.mem_cons_of_mem _ (iw5 _ (List.mem_of_getElem? (i := 6) rfl))) rfl dX8_revived_64 ?_
                refine z_iconst (pc := 67) (v := 0) dX8_revived_67 rfl ?_
                refine z_callS (pc := 68) (kc := kX8_copies) (n := 4) (As := [AR 41, AI 0, AR 42, AI 0]) (stk := []) ct_X8_copies_nt (gdS rfl rfl (iw9 _ (List.mem_of_getElem? (i := 16) rfl)) (iw9 _ (List.mem_of_getElem? (i := 17) rfl)) (iw1 _ (List.mem_of_getElem? (i := 5) rfl)) (iw9 _ (List.mem_of_getElem? (i := 18) rfl))) rfl ⟨rfl, rfl⟩ (by decide +kernel) ⟨by decide, by decide⟩ dX8_revived_68 rfl rfl (Nat.le_of_ble_eq_true rfl) ?_
                refine ⟨_, _, rfl, by omega, fun h14 eh14 => ?_⟩
                have frh14 : Fr [39, 40, 41, 42] hi h14 := (Fr.call frh1 eh14.1 (by decide))
                try rw [(by rw [eh1]; rfl : h1 40 = hi 40)] at eh14
                try rw [(by rw [eh1]; rfl : h1 41 = hi 41)] at eh14
                have F1 : Fr [41] h1 h14 := eh14.1
                have c1 : Cpd (h14 41) (hi 40) := by rw [eh14.2, hput_same]; exact cpy_same
                have rk := toRng hpre.1.1 (k := k) ⟨(by omega), (by omega)⟩
                have c0 := c1.1
                refine z_aload_n (pc := 71) (x := 40) dX8_revived_71 rfl 1 rfl ?_
                refine z_iload_n (pc := 72) dX8_revived_72 rfl 0 rfl ?_
                refine z_iload_n (pc := 73) dX8_revived_73 rfl 2 rfl ?_
                refine z_aload_n (pc := 74) (x := 40) dX8_revived_74 rfl 1 rfl ?_
                refine z_iload_n (pc := 75) dX8_revived_75 rfl 0 rfl ?_
                refine z_iconst (pc := 76) (v := 1) dX8_revived_76 rfl ?_
                refine z_callV (pc := 77) (kc := kX8_its) (n := 2) (pl := 39) (ci := 7) (C := RX8) (As := [AI k, AI 1]) (stk := [AI x, AI k, AR 40]) ct_X8_its (gdV rfl rfl (iw13 _ (List.mem_of_getElem? (i := 0) rfl)) (iw13 _ (List.mem_of_getElem? (i := 1) rfl)) (iw13 _ (List.mem_of_getElem? (i := 2) rfl)) (iw1 _ (List.mem_of_getElem? (i := 5) rfl)) (iw13 _ (List.mem_of_getElem? (i := 3) rfl))) rfl ⟨rfl, rfl⟩ (by decide +kernel) ⟨by decide, by decide⟩ (by decide) rfl rfl dX8_revived_77 rfl rfl (Nat.le_of_ble_eq_true rfl) ?_
                refine ⟨_, _, rfl, by omega, fun v15 ev15 => ?_⟩
                try rw [(eh14.1 40 (by decide) : h14 40 = h1 40), (by rw [eh1]; rfl : h1 40 = hi 40)] at ev15
                replace ev15 : v15 = bO (hi 40) k ∧ inR v15 := ev15
                refine z_bipush (pc := 80) (v := 64) dX8_revived_80 (by decide +kernel) ?_
                refine z_aload_n (pc := 82) (x := 40) dX8_revived_82 rfl 1 rfl ?_
                refine z_iload_n (pc := 83) dX8_revived_83 rfl 0 rfl ?_
                refine z_iconst (pc := 84) (v := 3) dX8_revived_84 rfl ?_
                refine z_callV (pc := 85) (kc := kX8_its) (n := 2) (pl := 39) (ci := 7) (C := RX8) (As := [AI k, AI 3]) (stk := [AI 64, AI v15, AI x, AI k, AR 40]) ct_X8_its (gdV rfl rfl (iw13 _ (List.mem_of_getElem? (i := 0) rfl)) (iw13 _ (List.mem_of_getElem? (i := 1) rfl)) (iw13 _ (List.mem_of_getElem? (i := 2) rfl)) (iw1 _ (List.mem_of_getElem? (i := 5) rfl)) (iw13 _ (List.mem_of_getElem? (i := 3) rfl))) rfl ⟨rfl, rfl⟩ (by decide +kernel) ⟨by decide, by decide⟩ (by decide) rfl rfl dX8_revived_85 rfl rfl (Nat.le_of_ble_eq_true rfl) ?_
                refine ⟨_, _, rfl, by omega, fun v16 ev16 => ?_⟩
                try rw [(eh14.1 40 (by decide) : h14 40 = h1 40), (by rw [eh1]; rfl : h1 40 = hi 40)] at ev16
                replace ev16 : v16 = wO (hi 40) k ∧ inR v16 := ev16
                refine z_callV (pc := 88) (kc := kX8_puts) (n := 5) (pl := 39) (ci := 7) (C := RX8) (As := [AI k, AI x, AI v15, AI 64, AI v16]) (stk := []) ct_X8_puts (gdV rfl rfl (iw9 _ (List.mem_of_getElem? (i := 19) rfl)) (iw9 _ (List.mem_of_getElem? (i := 20) rfl)) (iw9 _ (List.mem_of_getElem? (i := 21) rfl)) (iw1 _ (List.mem_of_getElem? (i := 5) rfl)) (iw9 _ (List.mem_of_getElem? (i := 22) rfl))) rfl ⟨rfl, rfl⟩ (by decide +kernel) ⟨by decide, by decide⟩ (by decide) rfl rfl dX8_revived_88 rfl rfl (Nat.le_of_ble_eq_true rfl) ?_
                refine ⟨_, _, _, _, _, rfl, by omega, fun h17 eh17 => ?_⟩
                have frh17 : Fr [39, 40, 41, 42] hi h17 := (Fr.call frh14 eh17.1 (by decide))
                have F2 : Fr [41] h1 h17 := Fr.call F1 eh17.1 (by decide)
                obtain ⟨f2, w2, p2⟩ := eh17.2
                have m2 : h17 41 = f2 := by rw [w2, hput_same]
                rw [← m2] at p2
                have pm := ends_put c1 p2 n0.2 (by omega)
                rw [show v15 = bO (hi 40) k by omega, show v16 = wO (hi 40) k by omega] at pm
                refine z_aload_n (pc := 91) (x := 40) dX8_revived_91 rfl 1 rfl ?_
                refine z_iload_n (pc := 92) dX8_revived_92 rfl 2 rfl ?_
                refine z_callV (pc := 93) (kc := kX8_tells) (n := 1) (pl := 39) (ci := 7) (C := RX8) (As := [AI x]) (stk := []) ct_X8_tells (gdV rfl rfl (iw9 _ (List.mem_of_getElem? (i := 23) rfl)) (iw10 _ (List.mem_of_getElem? (i := 0) rfl)) (iw10 _ (List.mem_of_getElem? (i := 1) rfl)) (iw1 _ (List.mem_of_getElem? (i := 5) rfl)) (iw10 _ (List.mem_of_getElem? (i := 2) rfl))) rfl ⟨rfl, rfl⟩ (by decide +kernel) ⟨by decide, by decide⟩ (by decide) rfl rfl dX8_revived_93 rfl rfl (Nat.le_of_ble_eq_true rfl) ?_
                refine ⟨_, rfl, tells_pre mi1 F2 (by rw [z1]; exact pm) (by omega) (by omega) (by omega) (by omega), fun v18 h19 eh19 => ?_⟩
                have frh19 : Fr [39, 40, 41, 42] hi h19 := (Fr.call frh17 eh19.1 (by decide))
                try rw [(eh17.1 39 (by decide) : h17 39 = h14 39), (eh14.1 39 (by decide) : h14 39 = h1 39)] at eh19
                try rw [(eh17.1 40 (by decide) : h17 40 = h14 40), (eh14.1 40 (by decide) : h14 40 = h1 40), (by rw [eh1]; rfl : h1 40 = hi 40)] at eh19
                try rw [(eh17.1 42 (by decide) : h17 42 = h14 42), (eh14.1 42 (by decide) : h14 42 = h1 42), (by rw [eh1]; rfl : h1 42 = hi 42)] at eh19
                have ed := put_ed mi1 F2 (by rw [z1]; exact pm) (by rw [z1]; exact Or.inr ⟨by omega, rfl⟩) (by omega) eh19.2
                refine z_iret (pc := 96) rfl dX8_revived_96 ?_
                exact hQ v18 h19 ⟨frh19, by rw [← z1]; first | exact Or.inl ⟨rfl, by omega, NoC.rf⟩ | exact Or.inr ⟨by omega, -1, Or.inr ⟨rfl, fun z z0 z2 => i1 z z0 (by omega)⟩, Or.inl ⟨by decide, rfl, NoC.rf⟩⟩ | exact Or.inr ⟨by omega, k, Or.inl ⟨by omega, by omega, by omega, i1⟩, Or.inr ⟨by omega, ed⟩⟩⟩
      exact J28 _ 0 (by omega) (no_0 rfl) (Nat.lt_succ_self _)
    · refine z_iconst (pc := 24) (v := 1) dX8_revived_24 rfl ?_
      refine z_iret (pc := 25) rfl dX8_revived_25 ?_
      exact hQ 1 h1 ⟨frh1, by rw [← z1]; first | exact Or.inl ⟨rfl, by omega, NoC.rf⟩ | exact Or.inr ⟨by omega, -1, Or.inr ⟨rfl, fun z z0 z2 => i1 z z0 (by omega)⟩, Or.inl ⟨by decide, rfl, NoC.rf⟩⟩ | exact Or.inr ⟨by omega, k, Or.inl ⟨by omega, by omega, by omega, i1⟩, Or.inr ⟨by omega, ed⟩⟩⟩

abbrev kX8_shifted : Kd := (cX8_shifted, .code yX8_shifted cX8_shifted 7 (some .int) :: wsL_law0, rmL 6, RX8, (some .int), 7)
theorem ct_X8_shifted : Ct kX8_shifted yX8_shifted (fun a hi Q => ∃ x : Int, ∃ h : Int, ∃ y : Int, a = [AR 40, AI x, AI h, AI y] ∧ (MI hi ∧ inR x ∧ inR h ∧ inR y) ∧ ∀ (v : Int) (h2 : HI), (Fr [39, 40, 41, 42] hi h2 ∧ ((v = 1 ∧ ¬ ((0 ≤ x ∧ x ≤ 999) ∧ (0 ≤ h ∧ h < 64) ∧ y ≠ 0 ∧ -64 < y ∧ y < 64) ∧ NoC (Z0 hi) h2) ∨ (((0 ≤ x ∧ x ≤ 999) ∧ (0 ≤ h ∧ h < 64) ∧ y ≠ 0 ∧ -64 < y ∧ y < 64) ∧ ∃ k : Int, Fst (fun z => nO (hi 40) z = x ∧ al (hi 40) z h) (hi 40 0) k ∧ ((k < 0 ∧ v = 2 ∧ NoC (Z0 hi) h2) ∨ (0 ≤ k ∧ ((v = 1 ∧ ¬ ((0 ≤ bO (hi 40) k + y ∧ bO (hi 40) k + y < 64) ∧ (if dO (hi 40) k = 64 then 64 else dO (hi 40) k + y) ≤ 64) ∧ NoC (Z0 hi) h2) ∨ (((0 ≤ bO (hi 40) k + y ∧ bO (hi 40) k + y < 64) ∧ (if dO (hi 40) k = 64 then 64 else dO (hi 40) k + y) ≤ 64) ∧ EdM (Z0 hi) h2 x k (bO (hi 40) k + y) (if dO (hi 40) k = 64 then 64 else dO (hi 40) k + y) (wO (hi 40) k) v))))))) → Q (AI v) h2) := by
  refine Ct.of (ws' := _) (by decide +kernel) rfl rfl ?_
  intro a hi Q hT
  obtain ⟨x, h, y, rfl, hpre, hQ⟩ := hT
  refine ⟨Nat.le_of_ble_eq_true rfl, ?_⟩
  show Z kX8_shifted Q 0 [(0, AR 40), (1, AI x), (2, AI h), (3, AI y)] [] hi
  refine z_aload_n (pc := 0) (x := 40) dX8_shifted_0 rfl 0 rfl ?_
  refine z_iconst (pc := 1) (v := 0) dX8_shifted_1 rfl ?_
  refine z_putI (pc := 2) (pl := 39) (f := 0) (ci := 7) (C := RX8) (T := TX8) (N := 33) hu_X8 tyX8_ok nmX8 (by decide) rfl rfl (by decide) rfl (List.mem_cons_of_mem _ (iw8 _ (List.mem_of_getElem? (i := 22) rfl))) rfl rfl (ty := .int) (by decide +kernel) rfl rfl ⟨by decide, by decide⟩ dX8_shifted_2 (fun h1 eh1 => ?_)
  have frh1 : Fr [39, 40, 41, 42] hi h1 := (Fr.put (Fr.rf) eh1 (by decide))
  have z1 : h1 = Z0 hi := eh1
  have mi1 : MI h1 := by rw [z1]; exact hpre.1.z0
  refine z_iload_n (pc := 5) dX8_shifted_5 rfl 1 rfl ?_
  refine z_callS (pc := 6) (kc := kX8_isNumber) (n := 1) (As := [AI x]) (stk := []) ct_X8_isNumber (gdS rfl rfl (iw9 _ (List.mem_of_getElem? (i := 5) rfl)) (iw9 _ (List.mem_of_getElem? (i := 6) rfl)) (iw1 _ (List.mem_of_getElem? (i := 5) rfl)) (iw9 _ (List.mem_of_getElem? (i := 7) rfl))) rfl ⟨rfl, rfl⟩ (by decide +kernel) ⟨by decide, by decide⟩ dX8_shifted_6 rfl rfl (Nat.le_of_ble_eq_true rfl) ?_
  refine ⟨_, rfl, by omega, fun v2 ev2 => ?_⟩
  refine z_if_eq (pc := 9) (tgt := 37) dX8_shifted_9 (by decide) ⟨by omega, by omega⟩ (fun c3 => ?_) (fun c3 => ?_)
  · refine z_iconst (pc := 37) (v := 1) dX8_shifted_37 rfl ?_
    refine z_iret (pc := 38) rfl dX8_shifted_38 ?_
    exact hQ 1 h1 ⟨frh1, by rw [← z1]; first | exact Or.inl ⟨rfl, by omega, NoC.rf⟩ | exact Or.inr ⟨by omega, _, wf, Or.inl ⟨by omega, rfl, NoC.rf⟩⟩ | exact Or.inr ⟨by omega, _, wf, Or.inr ⟨by omega, Or.inl ⟨rfl, by (split <;> omega), NoC.rf⟩⟩⟩ | exact Or.inr ⟨by omega, _, wf, Or.inr ⟨by omega, Or.inr ⟨by (split <;> omega), ed⟩⟩⟩⟩
  · refine z_iload_n (pc := 12) dX8_shifted_12 rfl 2 rfl ?_
    refine z_callS (pc := 13) (kc := kX8_isHour) (n := 1) (As := [AI h]) (stk := []) ct_X8_isHour (gdS rfl rfl (iw9 _ (List.mem_of_getElem? (i := 12) rfl)) (iw9 _ (List.mem_of_getElem? (i := 13) rfl)) (iw1 _ (List.mem_of_getElem? (i := 5) rfl)) (iw9 _ (List.mem_of_getElem? (i := 14) rfl))) rfl ⟨rfl, rfl⟩ (by decide +kernel) ⟨by decide, by decide⟩ dX8_shifted_13 rfl rfl (Nat.le_of_ble_eq_true rfl) ?_
    refine ⟨_, rfl, by omega, fun v4 ev4 => ?_⟩
    refine z_if_eq (pc := 16) (tgt := 37) dX8_shifted_16 (by decide) ⟨by omega, by omega⟩ (fun c5 => ?_) (fun c5 => ?_)
    · refine z_iconst (pc := 37) (v := 1) dX8_shifted_37 rfl ?_
      refine z_iret (pc := 38) rfl dX8_shifted_38 ?_
      exact hQ 1 h1 ⟨frh1, by rw [← z1]; first | exact Or.inl ⟨rfl, by omega, NoC.rf⟩ | exact Or.inr ⟨by omega, _, wf, Or.inl ⟨by omega, rfl, NoC.rf⟩⟩ | exact Or.inr ⟨by omega, _, wf, Or.inr ⟨by omega, Or.inl ⟨rfl, by (split <;> omega), NoC.rf⟩⟩⟩ | exact Or.inr ⟨by omega, _, wf, Or.inr ⟨by omega, Or.inr ⟨by (split <;> omega), ed⟩⟩⟩⟩
    · refine z_iload_n (pc := 19) dX8_shifted_19 rfl 3 rfl ?_
      refine z_if_eq (pc := 20) (tgt := 37) dX8_shifted_20 (by decide) ⟨by omega, by omega⟩ (fun c6 => ?_) (fun c6 => ?_)
      · refine z_iconst (pc := 37) (v := 1) dX8_shifted_37 rfl ?_
        refine z_iret (pc := 38) rfl dX8_shifted_38 ?_
        exact hQ 1 h1 ⟨frh1, by rw [← z1]; first | exact Or.inl ⟨rfl, by omega, NoC.rf⟩ | exact Or.inr ⟨by omega, _, wf, Or.inl ⟨by omega, rfl, NoC.rf⟩⟩ | exact Or.inr ⟨by omega, _, wf, Or.inr ⟨by omega, Or.inl ⟨rfl, by (split <;> omega), NoC.rf⟩⟩⟩ | exact Or.inr ⟨by omega, _, wf, Or.inr ⟨by omega, Or.inr ⟨by (split <;> omega), ed⟩⟩⟩⟩
      · refine z_iload_n (pc := 23) dX8_shifted_23 rfl 3 rfl ?_
        refine z_i2l (pc := 24) dX8_shifted_24 ⟨by omega, by omega⟩ ?_
        refine z_ldc2 (pc := 25) (v := (-63)) (x := (-63)) (List.mem_cons_of_mem _ (iw14 _ (List.mem_of_getElem? (i := 13) rfl))) (by decide +kernel) dX8_shifted_25 ?_
        refine z_ldc2 (pc := 28) (v := 63) (x := 63) (List.mem_cons_of_mem _ (iw9 _ (List.mem_of_getElem? (i := 15) rfl))) (by decide +kernel) dX8_shifted_28 ?_
        refine z_callS (pc := 31) (kc := kX8_within) (n := 3) (As := [AL y, AL (-63), AL 63]) (stk := []) ct_X8_within (gdS rfl rfl (iw9 _ (List.mem_of_getElem? (i := 9) rfl)) (iw9 _ (List.mem_of_getElem? (i := 10) rfl)) (iw1 _ (List.mem_of_getElem? (i := 5) rfl)) (iw9 _ (List.mem_of_getElem? (i := 11) rfl))) rfl ⟨rfl, rfl⟩ (by decide +kernel) ⟨by decide, by decide⟩ dX8_shifted_31 rfl rfl (Nat.le_of_ble_eq_true rfl) ?_
        refine ⟨_, _, _, rfl, ⟨⟨by omega, by omega⟩, ⟨by decide, by decide⟩, ⟨by decide, by decide⟩⟩, fun v7 ev7 => ?_⟩
        refine z_if_ne (pc := 34) (tgt := 39) dX8_shifted_34 (by decide) ⟨by omega, by omega⟩ (fun c8 => ?_) (fun c8 => ?_)
        · refine z_aload_n (pc := 39) (x := 40) dX8_shifted_39 rfl 0 rfl ?_
          refine z_getR (pc := 40) (pl := 39) (f := 1) (ci := 7) (C := RX8) (T := TX8) (N := 33) hu_X8 (by decide) rfl rfl (by decide) rfl (List.mem_cons_of_mem _ (iw5 _ (List.mem_of_getElem? (i := 5) rfl))) rfl dX8_shifted_40 ?_
          refine z_iload_n (pc := 43) dX8_shifted_43 rfl 1 rfl ?_
          refine z_iload_n (pc := 44) dX8_shifted_44 rfl 2 rfl ?_
          refine z_callS (pc := 45) (kc := kX8_lifeAt) (n := 3) (As := [AR 41, AI x, AI h]) (stk := []) ct_X8_lifeAt_40 (gdS rfl rfl (iw10 _ (List.mem_of_getElem? (i := 7) rfl)) (iw10 _ (List.mem_of_getElem? (i := 8) rfl)) (iw1 _ (List.mem_of_getElem? (i := 5) rfl)) (iw10 _ (List.mem_of_getElem? (i := 9) rfl))) rfl ⟨rfl, rfl⟩ (by decide +kernel) ⟨by decide, by decide⟩ dX8_shifted_45 rfl rfl (Nat.le_of_ble_eq_true rfl) ?_
          refine ⟨_, _, rfl, by have q := mi1.1.1; exact ⟨by omega, ⟨by omega, by omega⟩, ⟨by omega, by omega⟩⟩, fun v9 ev9 => ?_⟩
          try rw [(by rw [eh1]; rfl : h1 40 = hi 40)] at ev9
          have wf := ev9
          have n0 := hpre.1.1.1
          have gf := Fst.rng wf n0
          refine z_istore (pc := 48) (lv' := [(4, AI v9), (0, AR 40), (1, AI x), (2, AI h), (3, AI y)]) dX8_shifted_48 (by decide) rfl ?_
          refine z_iload (pc := 50) dX8_shifted_50 0 rfl ?_
          refine z_iconst (pc := 52) (v := (-1)) dX8_shifted_52 rfl ?_
          refine z_icmp_ne (pc := 53) (tgt := 58) dX8_shifted_53 (by decide) ⟨by omega, by omega⟩ ⟨by decide, by decide⟩ (fun c10 => ?_) (fun c10 => ?_)
          · refine z_aload_n (pc := 58) (x := 40) dX8_shifted_58 rfl 1 rfl ?_
            refine z_iload (pc := 59) dX8_shifted_59 0 rfl ?_
            refine z_iconst (pc := 61) (v := 1) dX8_shifted_61 rfl ?_
            refine z_callV (pc := 62) (kc := kX8_its) (n := 2) (pl := 39) (ci := 7) (C := RX8) (As := [AI v9, AI 1]) (stk := []) ct_X8_its (gdV rfl rfl (iw13 _ (List.mem_of_getElem? (i := 0) rfl)) (iw13 _ (List.mem_of_getElem? (i := 1) rfl)) (iw13 _ (List.mem_of_getElem? (i := 2) rfl)) (iw1 _ (List.mem_of_getElem? (i := 5) rfl)) (iw13 _ (List.mem_of_getElem? (i := 3) rfl))) rfl ⟨rfl, rfl⟩ (by decide +kernel) ⟨by decide, by decide⟩ (by decide) rfl rfl dX8_shifted_62 rfl rfl (Nat.le_of_ble_eq_true rfl) ?_
            refine ⟨_, _, rfl, by have q := (Fst.pos wf (by omega)).1; omega, fun v11 ev11 => ?_⟩
            try rw [(by rw [eh1]; rfl : h1 40 = hi 40)] at ev11
            replace ev11 : v11 = bO (hi 40) v9 ∧ inR v11 := ev11
            have rk := toRng hpre.1.1 ⟨(by omega), (Fst.pos wf (by omega)).1⟩
            refine z_iload_n (pc := 65) dX8_shifted_65 rfl 4 rfl ?_
            refine z_iadd (pc := 66) dX8_shifted_66 (fun v12 ev12 => ?_)
            refine z_istore (pc := 67) (lv' := [(5, AI v12), (4, AI v9), (0, AR 40), (1, AI x), (2, AI h), (3, AI y)]) dX8_shifted_67 (by decide) rfl ?_
            refine z_aload_n (pc := 69) (x := 40) dX8_shifted_69 rfl 2 rfl ?_
            refine z_iload (pc := 70) dX8_shifted_70 1 rfl ?_
            refine z_iconst (pc := 72) (v := 2) dX8_shifted_72 rfl ?_
            refine z_callV (pc := 73) (kc := kX8_its) (n := 2) (pl := 39) (ci := 7) (C := RX8) (As := [AI v9, AI 2]) (stk := []) ct_X8_its (gdV rfl rfl (iw13 _ (List.mem_of_getElem? (i := 0) rfl)) (iw13 _ (List.mem_of_getElem? (i := 1) rfl)) (iw13 _ (List.mem_of_getElem? (i := 2) rfl)) (iw1 _ (List.mem_of_getElem? (i := 5) rfl)) (iw13 _ (List.mem_of_getElem? (i := 3) rfl))) rfl ⟨rfl, rfl⟩ (by decide +kernel) ⟨by decide, by decide⟩ (by decide) rfl rfl dX8_shifted_73 rfl rfl (Nat.le_of_ble_eq_true rfl) ?_
            refine ⟨_, _, rfl, by have q := (Fst.pos wf (by omega)).1; omega, fun v13 ev13 => ?_⟩
            try rw [(by rw [eh1]; rfl : h1 40 = hi 40)] at ev13
            replace ev13 : v13 = dO (hi 40) v9 ∧ inR v13 := ev13
            refine z_bipush (pc := 76) (v := 64) dX8_shifted_76 (by decide +kernel) ?_
            refine z_icmp_ne (pc := 78) (tgt := 86) dX8_shifted_78 (by decide) ⟨by omega, by omega⟩ ⟨by decide, by decide⟩ (fun c14 => ?_) (fun c14 => ?_)
            · refine z_aload_n (pc := 86) (x := 40) dX8_shifted_86 rfl 2 rfl ?_
              refine z_iload (pc := 87) dX8_shifted_87 1 rfl ?_
              refine z_iconst (pc := 89) (v := 2) dX8_shifted_89 rfl ?_
              refine z_callV (pc := 90) (kc := kX8_its) (n := 2) (pl := 39) (ci := 7) (C := RX8) (As := [AI v9, AI 2]) (stk := []) ct_X8_its (gdV rfl rfl (iw13 _ (List.mem_of_getElem? (i := 0) rfl)) (iw13 _ (List.mem_of_getElem? (i := 1) rfl)) (iw13 _ (List.mem_of_getElem? (i := 2) rfl)) (iw1 _ (List.mem_of_getElem? (i := 5) rfl)) (iw13 _ (List.mem_of_getElem? (i := 3) rfl))) rfl ⟨rfl, rfl⟩ (by decide +kernel) ⟨by decide, by decide⟩ (by decide) rfl rfl dX8_shifted_90 rfl rfl (Nat.le_of_ble_eq_true rfl) ?_
              refine ⟨_, _, rfl, by have q := (Fst.pos wf (by omega)).1; omega, fun v15 ev15 => ?_⟩
              try rw [(by rw [eh1]; rfl : h1 40 = hi 40)] at ev15
              replace ev15 : v15 = dO (hi 40) v9 ∧ inR v15 := ev15
              refine z_iload_n (pc := 93) dX8_shifted_93 rfl 5 rfl ?_
              refine z_iadd (pc := 94) dX8_shifted_94 (fun v16 ev16 => ?_)
              refine z_istore (pc := 95) (lv' := [(6, AI v16), (5, AI v12), (4, AI v9), (0, AR 40), (1, AI x), (2, AI h), (3, AI y)]) dX8_shifted_95 (by decide) rfl ?_
              refine z_iload (pc := 97) dX8_shifted_97 1 rfl ?_
              refine z_callS (pc := 99) (kc := kX8_isHour) (n := 1) (As := [AI v12]) (stk := []) ct_X8_isHour (gdS rfl rfl (iw9 _ (List.mem_of_getElem? (i := 12) rfl)) (iw9 _ (List.mem_of_getElem? (i := 13) rfl)) (iw1 _ (List.mem_of_getElem? (i := 5) rfl)) (iw9 _ (List.mem_of_getElem? (i := 14) rfl))) rfl ⟨rfl, rfl⟩ (by decide +kernel) ⟨by decide, by decide⟩ dX8_shifted_99 rfl rfl (Nat.le_of_ble_eq_true rfl) ?_
              refine ⟨_, rfl, by omega, fun v17 ev17 => ?_⟩
              refine z_if_eq (pc := 102) (tgt := 112) dX8_shifted_102 (by decide) ⟨by omega, by omega⟩ (fun c18 => ?_) (fun c18 => ?_)
              · refine z_iconst (pc := 112) (v := 1) dX8_shifted_112 rfl ?_
                refine z_iret (pc := 113) rfl dX8_shifted_113 ?_
                exact hQ 1 h1 ⟨frh1, by rw [← z1]; first | exact Or.inl ⟨rfl, by omega, NoC.rf⟩ | exact Or.inr ⟨by omega, _, wf, Or.inl ⟨by omega, rfl, NoC.rf⟩⟩ | exact Or.inr ⟨by omega, _, wf, Or.inr ⟨by omega, Or.inl ⟨rfl, by (split <;> omega), NoC.rf⟩⟩⟩ | exact Or.inr ⟨by omega, _, wf, Or.inr ⟨by omega, Or.inr ⟨by (split <;> omega), ed⟩⟩⟩⟩
              · refine z_iload (pc := 105) dX8_shifted_105 0 rfl ?_
                refine z_bipush (pc := 107) (v := 64) dX8_shifted_107 (by decide +kernel) ?_
                refine z_icmp_le (pc := 109) (tgt := 114) dX8_shifted_109 (by decide) ⟨by omega, by omega⟩ ⟨by decide, by decide⟩ (fun c19 => ?_) (fun c19 => ?_)
                · refine z_aload_n (pc := 114) (x := 40) dX8_shifted_114 rfl 3 rfl ?_
                  refine z_getR (pc := 115) (pl := 39) (f := 1) (ci := 7) (C := RX8) (T := TX8) (N := 33) hu_X8 (by decide) rfl rfl (by decide) rfl (List.mem_cons_of_mem _ (iw5 _ (List.mem_of_getElem? (i := 5) rfl))) rfl dX8_shifted_115 ?_
                  refine z_iconst (pc := 118) (v := 0) dX8_shifted_118 rfl ?_
                  refine z_aload_n (pc := 119) (x := 40) dX8_shifted_119 rfl 3 rfl ?_
                  refine z_getR (pc := 120) (pl := 39) (f := 2) (ci := 7) (C := RX8) (T := TX8) (N := 33) hu_X8 (by decide) rfl rfl (by decide) rfl (List.mem_cons_of_mem _ (iw5 _ (List.mem_of_getElem? (i := 6) rfl))) rfl dX8_shifted_120 ?_
                  refine z_iconst (pc := 123) (v := 0) dX8_shifted_123 rfl ?_
                  refine z_callS (pc := 124) (kc := kX8_copies) (n := 4) (As := [AR 41, AI 0, AR 42, AI 0]) (stk := []) ct_X8_copies_nt (gdS rfl rfl (iw9 _ (List.mem_of_getElem? (i := 16) rfl)) (iw9 _ (List.mem_of_getElem? (i := 17) rfl)) (iw1 _ (List.mem_of_getElem? (i := 5) rfl)) (iw9 _ (List.mem_of_getElem? (i := 18) rfl))) rfl ⟨rfl, rfl⟩ (by decide +kernel) ⟨by decide, by decide⟩ dX8_shifted_124 rfl rfl (Nat.le_of_ble_eq_true rfl) ?_
                  refine ⟨_, _, rfl, by omega, fun h20 eh20 => ?_⟩
                  have frh20 : Fr [39, 40, 41, 42] hi h20 := (Fr.call frh1 eh20.1 (by decide))
                  try rw [(by rw [eh1]; rfl : h1 40 = hi 40)] at eh20
                  try rw [(by rw [eh1]; rfl : h1 41 = hi 41)] at eh20
                  have F1 : Fr [41] h1 h20 := eh20.1
                  have c1 : Cpd (h20 41) (hi 40) := by rw [eh20.2, hput_same]; exact cpy_same
                  have c0 := c1.1
                  have pk := (Fst.pos wf (by omega)).1
                  refine z_aload_n (pc := 127) (x := 40) dX8_shifted_127 rfl 3 rfl ?_
                  refine z_iload (pc := 128) dX8_shifted_128 2 rfl ?_
                  refine z_iload_n (pc := 130) dX8_shifted_130 rfl 4 rfl ?_
                  refine z_iload (pc := 131) dX8_shifted_131 1 rfl ?_
                  refine z_iload (pc := 133) dX8_shifted_133 0 rfl ?_
                  refine z_aload_n (pc := 135) (x := 40) dX8_shifted_135 rfl 3 rfl ?_
                  refine z_iload (pc := 136) dX8_shifted_136 2 rfl ?_
                  refine z_iconst (pc := 138) (v := 3) dX8_shifted_138 rfl ?_
                  refine z_callV (pc := 139) (kc := kX8_its) (n := 2) (pl := 39) (ci := 7) (C := RX8) (As := [AI v9, AI 3]) (stk := [AI v16, AI v12, AI x, AI v9, AR 40]) ct_X8_its (gdV rfl rfl (iw13 _ (List.mem_of_getElem? (i := 0) rfl)) (iw13 _ (List.mem_of_getElem? (i := 1) rfl)) (iw13 _ (List.mem_of_getElem? (i := 2) rfl)) (iw1 _ (List.mem_of_getElem? (i := 5) rfl)) (iw13 _ (List.mem_of_getElem? (i := 3) rfl))) rfl ⟨rfl, rfl⟩ (by decide +kernel) ⟨by decide, by decide⟩ (by decide) rfl rfl dX8_shifted_139 rfl rfl (Nat.le_of_ble_eq_true rfl) ?_
                  refine ⟨_, _, rfl, by have q := (Fst.pos wf (by omega)).1; omega, fun v21 ev21 => ?_⟩
                  try rw [(eh20.1 40 (by decide) : h20 40 = h1 40), (by rw [eh1]; rfl : h1 40 = hi 40)] at ev21
                  replace ev21 : v21 = wO (hi 40) v9 ∧ inR v21 := ev21
                  refine z_callV (pc := 142) (kc := kX8_puts) (n := 5) (pl := 39) (ci := 7) (C := RX8) (As := [AI v9, AI x, AI v12, AI v16, AI v21]) (stk := []) ct_X8_puts (gdV rfl rfl (iw9 _ (List.mem_of_getElem? (i := 19) rfl)) (iw9 _ (List.mem_of_getElem? (i := 20) rfl)) (iw9 _ (List.mem_of_getElem? (i := 21) rfl)) (iw1 _ (List.mem_of_getElem? (i := 5) rfl)) (iw9 _ (List.mem_of_getElem? (i := 22) rfl))) rfl ⟨rfl, rfl⟩ (by decide +kernel) ⟨by decide, by decide⟩ (by decide) rfl rfl dX8_shifted_142 rfl rfl (Nat.le_of_ble_eq_true rfl) ?_
                  refine ⟨_, _, _, _, _, rfl, by omega, fun h22 eh22 => ?_⟩
                  have frh22 : Fr [39, 40, 41, 42] hi h22 := (Fr.call frh20 eh22.1 (by decide))
                  have F2 : Fr [41] h1 h22 := Fr.call F1 eh22.1 (by decide)
                  obtain ⟨f2, w2, p2⟩ := eh22.2
                  have m2 : h22 41 = f2 := by rw [w2, hput_same]
                  rw [← m2] at p2
                  have pm := ends_put c1 p2 n0.2 (by omega)
                  rw [show v12 = bO (hi 40) v9 + y by omega, show v16 = (if dO (hi 40) v9 = 64 then 64 else dO (hi 40) v9 + y) by (split <;> omega), show v21 = wO (hi 40) v9 by omega] at pm
                  refine z_aload_n (pc := 145) (x := 40) dX8_shifted_145 rfl 3 rfl ?_
                  refine z_iload_n (pc := 146) dX8_shifted_146 rfl 4 rfl ?_
                  refine z_callV (pc := 147) (kc := kX8_tells) (n := 1) (pl := 39) (ci := 7) (C := RX8) (As := [AI x]) (stk := []) ct_X8_tells (gdV rfl rfl (iw9 _ (List.mem_of_getElem? (i := 23) rfl)) (iw10 _ (List.mem_of_getElem? (i := 0) rfl)) (iw10 _ (List.mem_of_getElem? (i := 1) rfl)) (iw1 _ (List.mem_of_getElem? (i := 5) rfl)) (iw10 _ (List.mem_of_getElem? (i := 2) rfl))) rfl ⟨rfl, rfl⟩ (by decide +kernel) ⟨by decide, by decide⟩ (by decide) rfl rfl dX8_shifted_147 rfl rfl (Nat.le_of_ble_eq_true rfl) ?_
                  refine ⟨_, rfl, tells_pre mi1 F2 (by rw [z1]; exact pm) (by (split <;> omega)) (by omega) (by omega) (by omega), fun v23 h24 eh24 => ?_⟩
                  have frh24 : Fr [39, 40, 41, 42] hi h24 := (Fr.call frh22 eh24.1 (by decide))
                  try rw [(eh22.1 39 (by decide) : h22 39 = h20 39), (eh20.1 39 (by decide) : h20 39 = h1 39)] at eh24
                  try rw [(eh22.1 40 (by decide) : h22 40 = h20 40), (eh20.1 40 (by decide) : h20 40 = h1 40), (by rw [eh1]; rfl : h1 40 = hi 40)] at eh24
                  try rw [(eh22.1 42 (by decide) : h22 42 = h20 42), (eh20.1 42 (by decide) : h20 42 = h1 42), (by rw [eh1]; rfl : h1 42 = hi 42)] at eh24
                  have ed := put_ed mi1 F2 (by rw [z1]; exact pm) (by rw [z1]; exact Or.inr ⟨by omega, rfl⟩) (by (split <;> omega)) eh24.2
                  refine z_iret (pc := 150) rfl dX8_shifted_150 ?_
                  exact hQ v23 h24 ⟨frh24, by rw [← z1]; first | exact Or.inl ⟨rfl, by omega, NoC.rf⟩ | exact Or.inr ⟨by omega, _, wf, Or.inl ⟨by omega, rfl, NoC.rf⟩⟩ | exact Or.inr ⟨by omega, _, wf, Or.inr ⟨by omega, Or.inl ⟨rfl, by (split <;> omega), NoC.rf⟩⟩⟩ | exact Or.inr ⟨by omega, _, wf, Or.inr ⟨by omega, Or.inr ⟨by (split <;> omega), ed⟩⟩⟩⟩
                · refine z_iconst (pc := 112) (v := 1) dX8_shifted_112 rfl ?_
                  refine z_iret (pc := 113) rfl dX8_shifted_113 ?_
                  exact hQ 1 h1 ⟨frh1, by rw [← z1]; first | exact Or.inl ⟨rfl, by omega, NoC.rf⟩ | exact Or.inr ⟨by omega, _, wf, Or.inl ⟨by omega, rfl, NoC.rf⟩⟩ | exact Or.inr ⟨by omega, _, wf, Or.inr ⟨by omega, Or.inl ⟨rfl, by (split <;> omega), NoC.rf⟩⟩⟩ | exact Or.inr ⟨by omega, _, wf, Or.inr ⟨by omega, Or.inr ⟨by (split <;> omega), ed⟩⟩⟩⟩
            · refine z_bipush (pc := 81) (v := 64) dX8_shifted_81 (by decide +kernel) ?_
              refine z_goto (pc := 83) (tgt := 95) dX8_shifted_83 (by decide) ?_
              refine z_istore (pc := 95) (lv' := [(6, AI 64), (5, AI v12), (4, AI v9), (0, AR 40), (1, AI x), (2, AI h), (3, AI y)]) dX8_shifted_95 (by decide) rfl ?_
              refine z_iload (pc := 97) dX8_shifted_97 1 rfl ?_
              refine z_callS (pc := 99) (kc := kX8_isHour) (n := 1) (As := [AI v12]) (stk := []) ct_X8_isHour (gdS rfl rfl (iw9 _ (List.mem_of_getElem? (i := 12) rfl)) (iw9 _ (List.mem_of_getElem? (i := 13) rfl)) (iw1 _ (List.mem_of_getElem? (i := 5) rfl)) (iw9 _ (List.mem_of_getElem? (i := 14) rfl))) rfl ⟨rfl, rfl⟩ (by decide +kernel) ⟨by decide, by decide⟩ dX8_shifted_99 rfl rfl (Nat.le_of_ble_eq_true rfl) ?_
              refine ⟨_, rfl, by omega, fun v25 ev25 => ?_⟩
              refine z_if_eq (pc := 102) (tgt := 112) dX8_shifted_102 (by decide) ⟨by omega, by omega⟩ (fun c26 => ?_) (fun c26 => ?_)
              · refine z_iconst (pc := 112) (v := 1) dX8_shifted_112 rfl ?_
                refine z_iret (pc := 113) rfl dX8_shifted_113 ?_
                exact hQ 1 h1 ⟨frh1, by rw [← z1]; first | exact Or.inl ⟨rfl, by omega, NoC.rf⟩ | exact Or.inr ⟨by omega, _, wf, Or.inl ⟨by omega, rfl, NoC.rf⟩⟩ | exact Or.inr ⟨by omega, _, wf, Or.inr ⟨by omega, Or.inl ⟨rfl, by (split <;> omega), NoC.rf⟩⟩⟩ | exact Or.inr ⟨by omega, _, wf, Or.inr ⟨by omega, Or.inr ⟨by (split <;> omega), ed⟩⟩⟩⟩
              · refine z_iload (pc := 105) dX8_shifted_105 0 rfl ?_
                refine z_bipush (pc := 107) (v := 64) dX8_shifted_107 (by decide +kernel) ?_
                refine z_icmp_le (pc := 109) (tgt := 114) dX8_shifted_109 (by decide) ⟨by decide, by decide⟩ ⟨by decide, by decide⟩ (fun _ => ?_) (fun q => absurd q (by decide))
                refine z_aload_n (pc := 114) (x := 40) dX8_shifted_114 rfl 3 rfl ?_
                refine z_getR (pc := 115) (pl := 39) (f := 1) (ci := 7) (C := RX8) (T := TX8) (N := 33) hu_X8 (by decide) rfl rfl (by decide) rfl (List.mem_cons_of_mem _ (iw5 _ (List.mem_of_getElem? (i := 5) rfl))) rfl dX8_shifted_115 ?_
                refine z_iconst (pc := 118) (v := 0) dX8_shifted_118 rfl ?_
                refine z_aload_n (pc := 119) (x := 40) dX8_shifted_119 rfl 3 rfl ?_
                refine z_getR (pc := 120) (pl := 39) (f := 2) (ci := 7) (C := RX8) (T := TX8) (N := 33) hu_X8 (by decide) rfl rfl (by decide) rfl (List.mem_cons_of_mem _ (iw5 _ (List.mem_of_getElem? (i := 6) rfl))) rfl dX8_shifted_120 ?_
                refine z_iconst (pc := 123) (v := 0) dX8_shifted_123 rfl ?_
                refine z_callS (pc := 124) (kc := kX8_copies) (n := 4) (As := [AR 41, AI 0, AR 42, AI 0]) (stk := []) ct_X8_copies_nt (gdS rfl rfl (iw9 _ (List.mem_of_getElem? (i := 16) rfl)) (iw9 _ (List.mem_of_getElem? (i := 17) rfl)) (iw1 _ (List.mem_of_getElem? (i := 5) rfl)) (iw9 _ (List.mem_of_getElem? (i := 18) rfl))) rfl ⟨rfl, rfl⟩ (by decide +kernel) ⟨by decide, by decide⟩ dX8_shifted_124 rfl rfl (Nat.le_of_ble_eq_true rfl) ?_
                refine ⟨_, _, rfl, by omega, fun h27 eh27 => ?_⟩
                have frh27 : Fr [39, 40, 41, 42] hi h27 := (Fr.call frh1 eh27.1 (by decide))
                try rw [(by rw [eh1]; rfl : h1 40 = hi 40)] at eh27
                try rw [(by rw [eh1]; rfl : h1 41 = hi 41)] at eh27
                have F1 : Fr [41] h1 h27 := eh27.1
                have c1 : Cpd (h27 41) (hi 40) := by rw [eh27.2, hput_same]; exact cpy_same
                have c0 := c1.1
                have pk := (Fst.pos wf (by omega)).1
                refine z_aload_n (pc := 127) (x := 40) dX8_shifted_127 rfl 3 rfl ?_
                refine z_iload (pc := 128) dX8_shifted_128 2 rfl ?_
                refine z_iload_n (pc := 130) dX8_shifted_130 rfl 4 rfl ?_
                refine z_iload (pc := 131) dX8_shifted_131 1 rfl ?_
                refine z_iload (pc := 133) dX8_shifted_133 0 rfl ?_
                refine z_aload_n (pc := 135) (x := 40) dX8_shifted_135 rfl 3 rfl ?_
                refine z_iload (pc := 136) dX8_shifted_136 2 rfl ?_
                refine z_iconst (pc := 138) (v := 3) dX8_shifted_138 rfl ?_
                refine z_callV (pc := 139) (kc := kX8_its) (n := 2) (pl := 39) (ci := 7) (C := RX8) (As := [AI v9, AI 3]) (stk := [AI 64, AI v12, AI x, AI v9, AR 40]) ct_X8_its (gdV rfl rfl (iw13 _ (List.mem_of_getElem? (i := 0) rfl)) (iw13 _ (List.mem_of_getElem? (i := 1) rfl)) (iw13 _ (List.mem_of_getElem? (i := 2) rfl)) (iw1 _ (List.mem_of_getElem? (i := 5) rfl)) (iw13 _ (List.mem_of_getElem? (i := 3) rfl))) rfl ⟨rfl, rfl⟩ (by decide +kernel) ⟨by decide, by decide⟩ (by decide) rfl rfl dX8_shifted_139 rfl rfl (Nat.le_of_ble_eq_true rfl) ?_
                refine ⟨_, _, rfl, by have q := (Fst.pos wf (by omega)).1; omega, fun v28 ev28 => ?_⟩
                try rw [(eh27.1 40 (by decide) : h27 40 = h1 40), (by rw [eh1]; rfl : h1 40 = hi 40)] at ev28
                replace ev28 : v28 = wO (hi 40) v9 ∧ inR v28 := ev28
                refine z_callV (pc := 142) (kc := kX8_puts) (n := 5) (pl := 39) (ci := 7) (C := RX8) (As := [AI v9, AI x, AI v12, AI 64, AI v28]) (stk := []) ct_X8_puts (gdV rfl rfl (iw9 _ (List.mem_of_getElem? (i := 19) rfl)) (iw9 _ (List.mem_of_getElem? (i := 20) rfl)) (iw9 _ (List.mem_of_getElem? (i := 21) rfl)) (iw1 _ (List.mem_of_getElem? (i := 5) rfl)) (iw9 _ (List.mem_of_getElem? (i := 22) rfl))) rfl ⟨rfl, rfl⟩ (by decide +kernel) ⟨by decide, by decide⟩ (by decide) rfl rfl dX8_shifted_142 rfl rfl (Nat.le_of_ble_eq_true rfl) ?_
                refine ⟨_, _, _, _, _, rfl, by omega, fun h29 eh29 => ?_⟩
                have frh29 : Fr [39, 40, 41, 42] hi h29 := (Fr.call frh27 eh29.1 (by decide))
                have F2 : Fr [41] h1 h29 := Fr.call F1 eh29.1 (by decide)
                obtain ⟨f2, w2, p2⟩ := eh29.2
                have m2 : h29 41 = f2 := by rw [w2, hput_same]
                rw [← m2] at p2
                have pm := ends_put c1 p2 n0.2 (by omega)
                rw [show v12 = bO (hi 40) v9 + y by omega, show 64 = (if dO (hi 40) v9 = 64 then 64 else dO (hi 40) v9 + y) by (split <;> omega), show v28 = wO (hi 40) v9 by omega] at pm
                refine z_aload_n (pc := 145) (x := 40) dX8_shifted_145 rfl 3 rfl ?_
                refine z_iload_n (pc := 146) dX8_shifted_146 rfl 4 rfl ?_
                refine z_callV (pc := 147) (kc := kX8_tells) (n := 1) (pl := 39) (ci := 7) (C := RX8) (As := [AI x]) (stk := []) ct_X8_tells (gdV rfl rfl (iw9 _ (List.mem_of_getElem? (i := 23) rfl)) (iw10 _ (List.mem_of_getElem? (i := 0) rfl)) (iw10 _ (List.mem_of_getElem? (i := 1) rfl)) (iw1 _ (List.mem_of_getElem? (i := 5) rfl)) (iw10 _ (List.mem_of_getElem? (i := 2) rfl))) rfl ⟨rfl, rfl⟩ (by decide +kernel) ⟨by decide, by decide⟩ (by decide) rfl rfl dX8_shifted_147 rfl rfl (Nat.le_of_ble_eq_true rfl) ?_
                refine ⟨_, rfl, tells_pre mi1 F2 (by rw [z1]; exact pm) (by (split <;> omega)) (by omega) (by omega) (by omega), fun v30 h31 eh31 => ?_⟩
                have frh31 : Fr [39, 40, 41, 42] hi h31 := (Fr.call frh29 eh31.1 (by decide))
                try rw [(eh29.1 39 (by decide) : h29 39 = h27 39), (eh27.1 39 (by decide) : h27 39 = h1 39)] at eh31
                try rw [(eh29.1 40 (by decide) : h29 40 = h27 40), (eh27.1 40 (by decide) : h27 40 = h1 40), (by rw [eh1]; rfl : h1 40 = hi 40)] at eh31
                try rw [(eh29.1 42 (by decide) : h29 42 = h27 42), (eh27.1 42 (by decide) : h27 42 = h1 42), (by rw [eh1]; rfl : h1 42 = hi 42)] at eh31
                have ed := put_ed mi1 F2 (by rw [z1]; exact pm) (by rw [z1]; exact Or.inr ⟨by omega, rfl⟩) (by (split <;> omega)) eh31.2
                refine z_iret (pc := 150) rfl dX8_shifted_150 ?_
                exact hQ v30 h31 ⟨frh31, by rw [← z1]; first | exact Or.inl ⟨rfl, by omega, NoC.rf⟩ | exact Or.inr ⟨by omega, _, wf, Or.inl ⟨by omega, rfl, NoC.rf⟩⟩ | exact Or.inr ⟨by omega, _, wf, Or.inr ⟨by omega, Or.inl ⟨rfl, by (split <;> omega), NoC.rf⟩⟩⟩ | exact Or.inr ⟨by omega, _, wf, Or.inr ⟨by omega, Or.inr ⟨by (split <;> omega), ed⟩⟩⟩⟩
          · refine z_iconst (pc := 56) (v := 2) dX8_shifted_56 rfl ?_
            refine z_iret (pc := 57) rfl dX8_shifted_57 ?_
            exact hQ 2 h1 ⟨frh1, by rw [← z1]; first | exact Or.inl ⟨rfl, by omega, NoC.rf⟩ | exact Or.inr ⟨by omega, _, wf, Or.inl ⟨by omega, rfl, NoC.rf⟩⟩ | exact Or.inr ⟨by omega, _, wf, Or.inr ⟨by omega, Or.inl ⟨rfl, by (split <;> omega), NoC.rf⟩⟩⟩ | exact Or.inr ⟨by omega, _, wf, Or.inr ⟨by omega, Or.inr ⟨by (split <;> omega), ed⟩⟩⟩⟩
        · refine z_iconst (pc := 37) (v := 1) dX8_shifted_37 rfl ?_
          refine z_iret (pc := 38) rfl dX8_shifted_38 ?_
          exact hQ 1 h1 ⟨frh1, by rw [← z1]; first | exact Or.inl ⟨rfl, by omega, NoC.rf⟩ | exact Or.inr ⟨by omega, _, wf, Or.inl ⟨by omega, rfl, NoC.rf⟩⟩ | exact Or.inr ⟨by omega, _, wf, Or.inr ⟨by omega, Or.inl ⟨rfl, by (split <;> omega), NoC.rf⟩⟩⟩ | exact Or.inr ⟨by omega, _, wf, Or.inr ⟨by omega, Or.inr ⟨by (split <;> omega), ed⟩⟩⟩⟩

abbrev kX8_worthed : Kd := (cX8_worthed, .code yX8_worthed cX8_worthed 5 (some .int) :: wsL_law0, rmL 4, RX8, (some .int), 5)
theorem ct_X8_worthed : Ct kX8_worthed yX8_worthed (fun a hi Q => ∃ x : Int, ∃ h : Int, ∃ w : Int, a = [AR 40, AI x, AI h, AI w] ∧ (MI hi ∧ inR x ∧ inR h ∧ inR w) ∧ ∀ (v : Int) (h2 : HI), (Fr [39, 40, 41, 42] hi h2 ∧ ((v = 1 ∧ ¬ ((0 ≤ x ∧ x ≤ 999) ∧ (0 ≤ h ∧ h < 64) ∧ (0 ≤ w ∧ w ≤ 99)) ∧ NoC (Z0 hi) h2) ∨ (((0 ≤ x ∧ x ≤ 999) ∧ (0 ≤ h ∧ h < 64) ∧ (0 ≤ w ∧ w ≤ 99)) ∧ ∃ k : Int, Fst (fun z => nO (hi 40) z = x ∧ al (hi 40) z h) (hi 40 0) k ∧ ((k < 0 ∧ v = 2 ∧ NoC (Z0 hi) h2) ∨ (0 ≤ k ∧ ((v = 3 ∧ bO (hi 40) k < hi 40 1 ∧ NoC (Z0 hi) h2) ∨ (v = 6 ∧ hi 40 1 ≤ bO (hi 40) k ∧ wO (hi 40) k = w ∧ NoC (Z0 hi) h2) ∨ (v = 0 ∧ hi 40 1 ≤ bO (hi 40) k ∧ wO (hi 40) k ≠ w ∧ Pus (Z0 hi) h2 ∧ PutM (hi 40) (hi 40 0) x k (bO (hi 40) k) (dO (hi 40) k) w (h2 40) (hi 40 0) k))))))) → Q (AI v) h2) := by
  refine Ct.of (ws' := _) (by decide +kernel) rfl rfl ?_
  intro a hi Q hT
  obtain ⟨x, h, w, rfl, hpre, hQ⟩ := hT
  refine ⟨Nat.le_of_ble_eq_true rfl, ?_⟩
  show Z kX8_worthed Q 0 [(0, AR 40), (1, AI x), (2, AI h), (3, AI w)] [] hi
  refine z_aload_n (pc := 0) (x := 40) dX8_worthed_0 rfl 0 rfl ?_
  refine z_iconst (pc := 1) (v := 0) dX8_worthed_1 rfl ?_
  refine z_putI (pc := 2) (pl := 39) (f := 0) (ci := 7) (C := RX8) (T := TX8) (N := 33) hu_X8 tyX8_ok nmX8 (by decide) rfl rfl (by decide) rfl (List.mem_cons_of_mem _ (iw8 _ (List.mem_of_getElem? (i := 22) rfl))) rfl rfl (ty := .int) (by decide +kernel) rfl rfl ⟨by decide, by decide⟩ dX8_worthed_2 (fun h1 eh1 => ?_)
  have frh1 : Fr [39, 40, 41, 42] hi h1 := (Fr.put (Fr.rf) eh1 (by decide))
  have z1 : h1 = Z0 hi := eh1
  have mi1 : MI h1 := by rw [z1]; exact hpre.1.z0
  refine z_iload_n (pc := 5) dX8_worthed_5 rfl 1 rfl ?_
  refine z_callS (pc := 6) (kc := kX8_isNumber) (n := 1) (As := [AI x]) (stk := []) ct_X8_isNumber (gdS rfl rfl (iw9 _ (List.mem_of_getElem? (i := 5) rfl)) (iw9 _ (List.mem_of_getElem? (i := 6) rfl)) (iw1 _ (List.mem_of_getElem? (i := 5) rfl)) (iw9 _ (List.mem_of_getElem? (i := 7) rfl))) rfl ⟨rfl, rfl⟩ (by decide +kernel) ⟨by decide, by decide⟩ dX8_worthed_6 rfl rfl (Nat.le_of_ble_eq_true rfl) ?_
  refine ⟨_, rfl, by omega, fun v2 ev2 => ?_⟩
  refine z_if_eq (pc := 9) (tgt := 31) dX8_worthed_9 (by decide) ⟨by omega, by omega⟩ (fun c3 => ?_) (fun c3 => ?_)
  · refine z_iconst (pc := 31) (v := 1) dX8_worthed_31 rfl ?_
    refine z_iret (pc := 32) rfl dX8_worthed_32 ?_
    exact hQ 1 h1 ⟨frh1, by rw [← z1]; first | exact Or.inl ⟨rfl, by omega, NoC.rf⟩ | exact Or.inr ⟨by omega, _, wf, Or.inl ⟨by omega, rfl, NoC.rf⟩⟩ | exact Or.inr ⟨by omega, _, wf, Or.inr ⟨by omega, Or.inl ⟨rfl, by omega, NoC.rf⟩⟩⟩ | exact Or.inr ⟨by omega, _, wf, Or.inr ⟨by omega, Or.inr (Or.inl ⟨rfl, by omega, by omega, NoC.rf⟩)⟩⟩ | exact Or.inr ⟨by omega, _, wf, Or.inr ⟨by omega, Or.inr (Or.inr ⟨rfl, by omega, by omega, bec_pus F2 w120, bec_put F2 w120 pm n0.2⟩)⟩⟩⟩
  · refine z_iload_n (pc := 12) dX8_worthed_12 rfl 2 rfl ?_
    refine z_callS (pc := 13) (kc := kX8_isHour) (n := 1) (As := [AI h]) (stk := []) ct_X8_isHour (gdS rfl rfl (iw9 _ (List.mem_of_getElem? (i := 12) rfl)) (iw9 _ (List.mem_of_getElem? (i := 13) rfl)) (iw1 _ (List.mem_of_getElem? (i := 5) rfl)) (iw9 _ (List.mem_of_getElem? (i := 14) rfl))) rfl ⟨rfl, rfl⟩ (by decide +kernel) ⟨by decide, by decide⟩ dX8_worthed_13 rfl rfl (Nat.le_of_ble_eq_true rfl) ?_
    refine ⟨_, rfl, by omega, fun v4 ev4 => ?_⟩
    refine z_if_eq (pc := 16) (tgt := 31) dX8_worthed_16 (by decide) ⟨by omega, by omega⟩ (fun c5 => ?_) (fun c5 => ?_)
    · refine z_iconst (pc := 31) (v := 1) dX8_worthed_31 rfl ?_
      refine z_iret (pc := 32) rfl dX8_worthed_32 ?_
      exact hQ 1 h1 ⟨frh1, by rw [← z1]; first | exact Or.inl ⟨rfl, by omega, NoC.rf⟩ | exact Or.inr ⟨by omega, _, wf, Or.inl ⟨by omega, rfl, NoC.rf⟩⟩ | exact Or.inr ⟨by omega, _, wf, Or.inr ⟨by omega, Or.inl ⟨rfl, by omega, NoC.rf⟩⟩⟩ | exact Or.inr ⟨by omega, _, wf, Or.inr ⟨by omega, Or.inr (Or.inl ⟨rfl, by omega, by omega, NoC.rf⟩)⟩⟩ | exact Or.inr ⟨by omega, _, wf, Or.inr ⟨by omega, Or.inr (Or.inr ⟨rfl, by omega, by omega, bec_pus F2 w120, bec_put F2 w120 pm n0.2⟩)⟩⟩⟩
    · refine z_iload_n (pc := 19) dX8_worthed_19 rfl 3 rfl ?_
      refine z_i2l (pc := 20) dX8_worthed_20 ⟨by omega, by omega⟩ ?_
      refine z_lconst (pc := 21) (v := 0) dX8_worthed_21 (by decide +kernel) ?_
      refine z_ldc2 (pc := 22) (v := 99) (x := 99) (List.mem_cons_of_mem _ (iw9 _ (List.mem_of_getElem? (i := 4) rfl))) (by decide +kernel) dX8_worthed_22 ?_
      refine z_callS (pc := 25) (kc := kX8_within) (n := 3) (As := [AL w, AL 0, AL 99]) (stk := []) ct_X8_within (gdS rfl rfl (iw9 _ (List.mem_of_getElem? (i := 9) rfl)) (iw9 _ (List.mem_of_getElem? (i := 10) rfl)) (iw1 _ (List.mem_of_getElem? (i := 5) rfl)) (iw9 _ (List.mem_of_getElem? (i := 11) rfl))) rfl ⟨rfl, rfl⟩ (by decide +kernel) ⟨by decide, by decide⟩ dX8_worthed_25 rfl rfl (Nat.le_of_ble_eq_true rfl) ?_
      refine ⟨_, _, _, rfl, ⟨⟨by omega, by omega⟩, ⟨by decide, by decide⟩, ⟨by decide, by decide⟩⟩, fun v6 ev6 => ?_⟩
      refine z_if_ne (pc := 28) (tgt := 33) dX8_worthed_28 (by decide) ⟨by omega, by omega⟩ (fun c7 => ?_) (fun c7 => ?_)
      · refine z_aload_n (pc := 33) (x := 40) dX8_worthed_33 rfl 0 rfl ?_
        refine z_getR (pc := 34) (pl := 39) (f := 1) (ci := 7) (C := RX8) (T := TX8) (N := 33) hu_X8 (by decide) rfl rfl (by decide) rfl (List.mem_cons_of_mem _ (iw5 _ (List.mem_of_getElem? (i := 5) rfl))) rfl dX8_worthed_34 ?_
        refine z_iload_n (pc := 37) dX8_worthed_37 rfl 1 rfl ?_
        refine z_iload_n (pc := 38) dX8_worthed_38 rfl 2 rfl ?_
        refine z_callS (pc := 39) (kc := kX8_lifeAt) (n := 3) (As := [AR 41, AI x, AI h]) (stk := []) ct_X8_lifeAt_40 (gdS rfl rfl (iw10 _ (List.mem_of_getElem? (i := 7) rfl)) (iw10 _ (List.mem_of_getElem? (i := 8) rfl)) (iw1 _ (List.mem_of_getElem? (i := 5) rfl)) (iw10 _ (List.mem_of_getElem? (i := 9) rfl))) rfl ⟨rfl, rfl⟩ (by decide +kernel) ⟨by decide, by decide⟩ dX8_worthed_39 rfl rfl (Nat.le_of_ble_eq_true rfl) ?_
        refine ⟨_, _, rfl, by have q := mi1.1.1; exact ⟨by omega, ⟨by omega, by omega⟩, ⟨by omega, by omega⟩⟩, fun v8 ev8 => ?_⟩
        try rw [(by rw [eh1]; rfl : h1 40 = hi 40)] at ev8
        have wf := ev8
        have n0 := hpre.1.1.1
        have gf := Fst.rng wf n0
        refine z_istore (pc := 42) (lv' := [(4, AI v8), (0, AR 40), (1, AI x), (2, AI h), (3, AI w)]) dX8_worthed_42 (by decide) rfl ?_
        refine z_iload (pc := 44) dX8_worthed_44 0 rfl ?_
        refine z_iconst (pc := 46) (v := (-1)) dX8_worthed_46 rfl ?_
        refine z_icmp_ne (pc := 47) (tgt := 52) dX8_worthed_47 (by decide) ⟨by omega, by omega⟩ ⟨by decide, by decide⟩ (fun c9 => ?_) (fun c9 => ?_)
        · refine z_aload_n (pc := 52) (x := 40) dX8_worthed_52 rfl 1 rfl ?_
          refine z_iload (pc := 53) dX8_worthed_53 0 rfl ?_
          refine z_iconst (pc := 55) (v := 1) dX8_worthed_55 rfl ?_
          refine z_callV (pc := 56) (kc := kX8_its) (n := 2) (pl := 39) (ci := 7) (C := RX8) (As := [AI v8, AI 1]) (stk := []) ct_X8_its (gdV rfl rfl (iw13 _ (List.mem_of_getElem? (i := 0) rfl)) (iw13 _ (List.mem_of_getElem? (i := 1) rfl)) (iw13 _ (List.mem_of_getElem? (i := 2) rfl)) (iw1 _ (List.mem_of_getElem? (i := 5) rfl)) (iw13 _ (List.mem_of_getElem? (i := 3) rfl))) rfl ⟨rfl, rfl⟩ (by decide +kernel) ⟨by decide, by decide⟩ (by decide) rfl rfl dX8_worthed_56 rfl rfl (Nat.le_of_ble_eq_true rfl) ?_
          refine ⟨_, _, rfl, by have q := (Fst.pos wf (by omega)).1; omega, fun v10 ev10 => ?_⟩
          try rw [(by rw [eh1]; rfl : h1 40 = hi 40)] at ev10
          replace ev10 : v10 = bO (hi 40) v8 ∧ inR v10 := ev10
          have rk := toRng hpre.1.1 ⟨(by omega), (Fst.pos wf (by omega)).1⟩
          refine z_aload_n (pc := 59) (x := 40) dX8_worthed_59 rfl 1 rfl ?_
          refine z_getR (pc := 60) (pl := 39) (f := 1) (ci := 7) (C := RX8) (T := TX8) (N := 33) hu_X8 (by decide) rfl rfl (by decide) rfl (List.mem_cons_of_mem _ (iw5 _ (List.mem_of_getElem? (i := 5) rfl))) rfl dX8_worthed_60 ?_
          refine z_iconst (pc := 63) (v := 1) dX8_worthed_63 rfl ?_
          refine z_iald (pc := 64) (pl := 40) (by decide) rfl (by decide) (by decide) (by decide) (by decide) dX8_worthed_64 (fun v11 ev11 rv11 => ?_)
          rw [(by rw [eh1]; rfl : h1 40 = hi 40)] at ev11
          replace ev11 : v11 = hi 40 1 := ev11
          refine z_icmp_ge (pc := 65) (tgt := 70) dX8_worthed_65 (by decide) ⟨by omega, by omega⟩ ⟨by omega, by omega⟩ (fun c12 => ?_) (fun c12 => ?_)
          · refine z_aload_n (pc := 70) (x := 40) dX8_worthed_70 rfl 1 rfl ?_
            refine z_iload (pc := 71) dX8_worthed_71 0 rfl ?_
            refine z_iconst (pc := 73) (v := 3) dX8_worthed_73 rfl ?_
            refine z_callV (pc := 74) (kc := kX8_its) (n := 2) (pl := 39) (ci := 7) (C := RX8) (As := [AI v8, AI 3]) (stk := []) ct_X8_its (gdV rfl rfl (iw13 _ (List.mem_of_getElem? (i := 0) rfl)) (iw13 _ (List.mem_of_getElem? (i := 1) rfl)) (iw13 _ (List.mem_of_getElem? (i := 2) rfl)) (iw1 _ (List.mem_of_getElem? (i := 5) rfl)) (iw13 _ (List.mem_of_getElem? (i := 3) rfl))) rfl ⟨rfl, rfl⟩ (by decide +kernel) ⟨by decide, by decide⟩ (by decide) rfl rfl dX8_worthed_74 rfl rfl (Nat.le_of_ble_eq_true rfl) ?_
            refine ⟨_, _, rfl, by have q := (Fst.pos wf (by omega)).1; omega, fun v13 ev13 => ?_⟩
            try rw [(by rw [eh1]; rfl : h1 40 = hi 40)] at ev13
            replace ev13 : v13 = wO (hi 40) v8 ∧ inR v13 := ev13
            refine z_iload_n (pc := 77) dX8_worthed_77 rfl 4 rfl ?_
            refine z_icmp_ne (pc := 78) (tgt := 84) dX8_worthed_78 (by decide) ⟨by omega, by omega⟩ ⟨by omega, by omega⟩ (fun c14 => ?_) (fun c14 => ?_)
            · refine z_aload_n (pc := 84) (x := 40) dX8_worthed_84 rfl 1 rfl ?_
              refine z_getR (pc := 85) (pl := 39) (f := 1) (ci := 7) (C := RX8) (T := TX8) (N := 33) hu_X8 (by decide) rfl rfl (by decide) rfl (List.mem_cons_of_mem _ (iw5 _ (List.mem_of_getElem? (i := 5) rfl))) rfl dX8_worthed_85 ?_
              refine z_iconst (pc := 88) (v := 0) dX8_worthed_88 rfl ?_
              refine z_aload_n (pc := 89) (x := 40) dX8_worthed_89 rfl 1 rfl ?_
              refine z_getR (pc := 90) (pl := 39) (f := 2) (ci := 7) (C := RX8) (T := TX8) (N := 33) hu_X8 (by decide) rfl rfl (by decide) rfl (List.mem_cons_of_mem _ (iw5 _ (List.mem_of_getElem? (i := 6) rfl))) rfl dX8_worthed_90 ?_
              refine z_iconst (pc := 93) (v := 0) dX8_worthed_93 rfl ?_
              refine z_callS (pc := 94) (kc := kX8_copies) (n := 4) (As := [AR 41, AI 0, AR 42, AI 0]) (stk := []) ct_X8_copies_nt (gdS rfl rfl (iw9 _ (List.mem_of_getElem? (i := 16) rfl)) (iw9 _ (List.mem_of_getElem? (i := 17) rfl)) (iw1 _ (List.mem_of_getElem? (i := 5) rfl)) (iw9 _ (List.mem_of_getElem? (i := 18) rfl))) rfl ⟨rfl, rfl⟩ (by decide +kernel) ⟨by decide, by decide⟩ dX8_worthed_94 rfl rfl (Nat.le_of_ble_eq_true rfl) ?_
              refine ⟨_, _, rfl, by omega, fun h15 eh15 => ?_⟩
              have frh15 : Fr [39, 40, 41, 42] hi h15 := (Fr.call frh1 eh15.1 (by decide))
              try rw [(by rw [eh1]; rfl : h1 40 = hi 40)] at eh15
              try rw [(by rw [eh1]; rfl : h1 41 = hi 41)] at eh15
              have F1 : Fr [41] h1 h15 := eh15.1
              have c1 : Cpd (h15 41) (hi 40) := by rw [eh15.2, hput_same]; exact cpy_same
              have c0 := c1.1
              have pk := (Fst.pos wf (by omega)).1
              refine z_aload_n (pc := 97) (x := 40) dX8_worthed_97 rfl 1 rfl ?_
              refine z_iload (pc := 98) dX8_worthed_98 0 rfl ?_
              refine z_iload_n (pc := 100) dX8_worthed_100 rfl 2 rfl ?_
              refine z_aload_n (pc := 101) (x := 40) dX8_worthed_101 rfl 1 rfl ?_
              refine z_iload (pc := 102) dX8_worthed_102 0 rfl ?_
              refine z_iconst (pc := 104) (v := 1) dX8_worthed_104 rfl ?_
              refine z_callV (pc := 105) (kc := kX8_its) (n := 2) (pl := 39) (ci := 7) (C := RX8) (As := [AI v8, AI 1]) (stk := [AI x, AI v8, AR 40]) ct_X8_its (gdV rfl rfl (iw13 _ (List.mem_of_getElem? (i := 0) rfl)) (iw13 _ (List.mem_of_getElem? (i := 1) rfl)) (iw13 _ (List.mem_of_getElem? (i := 2) rfl)) (iw1 _ (List.mem_of_getElem? (i := 5) rfl)) (iw13 _ (List.mem_of_getElem? (i := 3) rfl))) rfl ⟨rfl, rfl⟩ (by decide +kernel) ⟨by decide, by decide⟩ (by decide) rfl rfl dX8_worthed_105 rfl rfl (Nat.le_of_ble_eq_true rfl) ?_
              refine ⟨_, _, rfl, by have q := (Fst.pos wf (by omega)).1; omega, fun v16 ev16 => ?_⟩
              try rw [(eh15.1 40 (by decide) : h15 40 = h1 40), (by rw [eh1]; rfl : h1 40 = hi 40)] at ev16
              replace ev16 : v16 = bO (hi 40) v8 ∧ inR v16 := ev16
              refine z_aload_n (pc := 108) (x := 40) dX8_worthed_108 rfl 1 rfl ?_
              refine z_iload (pc := 109) dX8_worthed_109 0 rfl ?_
              refine z_iconst (pc := 111) (v := 2) dX8_worthed_111 rfl ?_
              refine z_callV (pc := 112) (kc := kX8_its) (n := 2) (pl := 39) (ci := 7) (C := RX8) (As := [AI v8, AI 2]) (stk := [AI v16, AI x, AI v8, AR 40]) ct_X8_its (gdV rfl rfl (iw13 _ (List.mem_of_getElem? (i := 0) rfl)) (iw13 _ (List.mem_of_getElem? (i := 1) rfl)) (iw13 _ (List.mem_of_getElem? (i := 2) rfl)) (iw1 _ (List.mem_of_getElem? (i := 5) rfl)) (iw13 _ (List.mem_of_getElem? (i := 3) rfl))) rfl ⟨rfl, rfl⟩ (by decide +kernel) ⟨by decide, by decide⟩ (by decide) rfl rfl dX8_worthed_112 rfl rfl (Nat.le_of_ble_eq_true rfl) ?_
              refine ⟨_, _, rfl, by have q := (Fst.pos wf (by omega)).1; omega, fun v17 ev17 => ?_⟩
              try rw [(eh15.1 40 (by decide) : h15 40 = h1 40), (by rw [eh1]; rfl : h1 40 = hi 40)] at ev17
              replace ev17 : v17 = dO (hi 40) v8 ∧ inR v17 := ev17
              refine z_iload_n (pc := 115) dX8_worthed_115 rfl 4 rfl ?_
              refine z_callV (pc := 116) (kc := kX8_puts) (n := 5) (pl := 39) (ci := 7) (C := RX8) (As := [AI v8, AI x, AI v16, AI v17, AI w]) (stk := []) ct_X8_puts (gdV rfl rfl (iw9 _ (List.mem_of_getElem? (i := 19) rfl)) (iw9 _ (List.mem_of_getElem? (i := 20) rfl)) (iw9 _ (List.mem_of_getElem? (i := 21) rfl)) (iw1 _ (List.mem_of_getElem? (i := 5) rfl)) (iw9 _ (List.mem_of_getElem? (i := 22) rfl))) rfl ⟨rfl, rfl⟩ (by decide +kernel) ⟨by decide, by decide⟩ (by decide) rfl rfl dX8_worthed_116 rfl rfl (Nat.le_of_ble_eq_true rfl) ?_
              refine ⟨_, _, _, _, _, rfl, by omega, fun h18 eh18 => ?_⟩
              have frh18 : Fr [39, 40, 41, 42] hi h18 := (Fr.call frh15 eh18.1 (by decide))
              have F2 : Fr [41] h1 h18 := Fr.call F1 eh18.1 (by decide)
              obtain ⟨f2, w2, p2⟩ := eh18.2
              have m2 : h18 41 = f2 := by rw [w2, hput_same]
              rw [← m2] at p2
              have pm := ends_put c1 p2 n0.2 (by omega)
              rw [show v16 = bO (hi 40) v8 by omega, show v17 = dO (hi 40) v8 by omega] at pm
              refine z_aload_n (pc := 119) (x := 40) dX8_worthed_119 rfl 1 rfl ?_
              refine z_callV (pc := 120) (kc := kX8_becomes) (n := 0) (pl := 39) (ci := 7) (C := RX8) (As := []) (stk := []) ct_X8_becomes (gdV rfl rfl (iw11 _ (List.mem_of_getElem? (i := 4) rfl)) (iw11 _ (List.mem_of_getElem? (i := 5) rfl)) (iw11 _ (List.mem_of_getElem? (i := 6) rfl)) (iw1 _ (List.mem_of_getElem? (i := 5) rfl)) (iw11 _ (List.mem_of_getElem? (i := 7) rfl))) rfl ⟨rfl, rfl⟩ (by decide +kernel) ⟨by decide, by decide⟩ (by decide) rfl rfl dX8_worthed_120 rfl rfl (Nat.le_of_ble_eq_true rfl) ?_
              refine ⟨rfl, by rw [F2 39 (by decide)]; exact mi1.2.2, fun h19 eh19 => ?_⟩
              have frh19 : Fr [39, 40, 41, 42] hi h19 := (Fr.call frh18 eh19.1 (by decide))
              try rw [(eh18.1 39 (by decide) : h18 39 = h15 39), (eh15.1 39 (by decide) : h15 39 = h1 39)] at eh19
              try rw [(eh18.1 40 (by decide) : h18 40 = h15 40), (eh15.1 40 (by decide) : h15 40 = h1 40), (by rw [eh1]; rfl : h1 40 = hi 40)] at eh19
              try rw [(eh18.1 42 (by decide) : h18 42 = h15 42), (eh15.1 42 (by decide) : h15 42 = h1 42), (by rw [eh1]; rfl : h1 42 = hi 42)] at eh19
              have w120 := eh19.2
              refine z_iconst (pc := 123) (v := 0) dX8_worthed_123 rfl ?_
              refine z_iret (pc := 124) rfl dX8_worthed_124 ?_
              exact hQ 0 h19 ⟨frh19, by rw [← z1]; first | exact Or.inl ⟨rfl, by omega, NoC.rf⟩ | exact Or.inr ⟨by omega, _, wf, Or.inl ⟨by omega, rfl, NoC.rf⟩⟩ | exact Or.inr ⟨by omega, _, wf, Or.inr ⟨by omega, Or.inl ⟨rfl, by omega, NoC.rf⟩⟩⟩ | exact Or.inr ⟨by omega, _, wf, Or.inr ⟨by omega, Or.inr (Or.inl ⟨rfl, by omega, by omega, NoC.rf⟩)⟩⟩ | exact Or.inr ⟨by omega, _, wf, Or.inr ⟨by omega, Or.inr (Or.inr ⟨rfl, by omega, by omega, bec_pus F2 w120, bec_put F2 w120 pm n0.2⟩)⟩⟩⟩
            · refine z_bipush (pc := 81) (v := 6) dX8_worthed_81 (by decide +kernel) ?_
              refine z_iret (pc := 83) rfl dX8_worthed_83 ?_
              exact hQ 6 h1 ⟨frh1, by rw [← z1]; first | exact Or.inl ⟨rfl, by omega, NoC.rf⟩ | exact Or.inr ⟨by omega, _, wf, Or.inl ⟨by omega, rfl, NoC.rf⟩⟩ | exact Or.inr ⟨by omega, _, wf, Or.inr ⟨by omega, Or.inl ⟨rfl, by omega, NoC.rf⟩⟩⟩ | exact Or.inr ⟨by omega, _, wf, Or.inr ⟨by omega, Or.inr (Or.inl ⟨rfl, by omega, by omega, NoC.rf⟩)⟩⟩ | exact Or.inr ⟨by omega, _, wf, Or.inr ⟨by omega, Or.inr (Or.inr ⟨rfl, by omega, by omega, bec_pus F2 w120, bec_put F2 w120 pm n0.2⟩)⟩⟩⟩
          · refine z_iconst (pc := 68) (v := 3) dX8_worthed_68 rfl ?_
            refine z_iret (pc := 69) rfl dX8_worthed_69 ?_
            exact hQ 3 h1 ⟨frh1, by rw [← z1]; first | exact Or.inl ⟨rfl, by omega, NoC.rf⟩ | exact Or.inr ⟨by omega, _, wf, Or.inl ⟨by omega, rfl, NoC.rf⟩⟩ | exact Or.inr ⟨by omega, _, wf, Or.inr ⟨by omega, Or.inl ⟨rfl, by omega, NoC.rf⟩⟩⟩ | exact Or.inr ⟨by omega, _, wf, Or.inr ⟨by omega, Or.inr (Or.inl ⟨rfl, by omega, by omega, NoC.rf⟩)⟩⟩ | exact Or.inr ⟨by omega, _, wf, Or.inr ⟨by omega, Or.inr (Or.inr ⟨rfl, by omega, by omega, bec_pus F2 w120, bec_put F2 w120 pm n0.2⟩)⟩⟩⟩
        · refine z_iconst (pc := 50) (v := 2) dX8_worthed_50 rfl ?_
          refine z_iret (pc := 51) rfl dX8_worthed_51 ?_
          exact hQ 2 h1 ⟨frh1, by rw [← z1]; first | exact Or.inl ⟨rfl, by omega, NoC.rf⟩ | exact Or.inr ⟨by omega, _, wf, Or.inl ⟨by omega, rfl, NoC.rf⟩⟩ | exact Or.inr ⟨by omega, _, wf, Or.inr ⟨by omega, Or.inl ⟨rfl, by omega, NoC.rf⟩⟩⟩ | exact Or.inr ⟨by omega, _, wf, Or.inr ⟨by omega, Or.inr (Or.inl ⟨rfl, by omega, by omega, NoC.rf⟩)⟩⟩ | exact Or.inr ⟨by omega, _, wf, Or.inr ⟨by omega, Or.inr (Or.inr ⟨rfl, by omega, by omega, bec_pus F2 w120, bec_put F2 w120 pm n0.2⟩)⟩⟩⟩
      · refine z_iconst (pc := 31) (v := 1) dX8_worthed_31 rfl ?_
        refine z_iret (pc := 32) rfl dX8_worthed_32 ?_
        exact hQ 1 h1 ⟨frh1, by rw [← z1]; first | exact Or.inl ⟨rfl, by omega, NoC.rf⟩ | exact Or.inr ⟨by omega, _, wf, Or.inl ⟨by omega, rfl, NoC.rf⟩⟩ | exact Or.inr ⟨by omega, _, wf, Or.inr ⟨by omega, Or.inl ⟨rfl, by omega, NoC.rf⟩⟩⟩ | exact Or.inr ⟨by omega, _, wf, Or.inr ⟨by omega, Or.inr (Or.inl ⟨rfl, by omega, by omega, NoC.rf⟩)⟩⟩ | exact Or.inr ⟨by omega, _, wf, Or.inr ⟨by omega, Or.inr (Or.inr ⟨rfl, by omega, by omega, bec_pus F2 w120, bec_put F2 w120 pm n0.2⟩)⟩⟩⟩

abbrev kX8_lock : Kd := (cX8_lock, .code yX8_lock cX8_lock 3 (some .int) :: wsL_law0, rmL 2, RX8, (some .int), 3)
theorem ct_X8_lock : Ct kX8_lock yX8_lock (fun a hi Q => ∃ x : Int, a = [AR 40, AI x] ∧ (MI hi ∧ inR x) ∧ ∀ (v : Int) (h2 : HI), (Fr [39, 40] hi h2 ∧ ((v = -1 ∧ ¬ (0 ≤ x ∧ x ≤ 64) ∧ h2 = Z0 hi) ∨ ((0 ≤ x ∧ x ≤ 64) ∧ v = hi 40 1 ∧ h2 = hput (Z0 hi) 40 (updI (hi 40) 1 x)))) → Q (AI v) h2) := by
  refine Ct.of (ws' := _) (by decide +kernel) rfl rfl ?_
  intro a hi Q hT
  obtain ⟨x, rfl, hpre, hQ⟩ := hT
  refine ⟨Nat.le_of_ble_eq_true rfl, ?_⟩
  show Z kX8_lock Q 0 [(0, AR 40), (1, AI x)] [] hi
  refine z_aload_n (pc := 0) (x := 40) dX8_lock_0 rfl 0 rfl ?_
  refine z_iconst (pc := 1) (v := 0) dX8_lock_1 rfl ?_
  refine z_putI (pc := 2) (pl := 39) (f := 0) (ci := 7) (C := RX8) (T := TX8) (N := 33) hu_X8 tyX8_ok nmX8 (by decide) rfl rfl (by decide) rfl (List.mem_cons_of_mem _ (iw8 _ (List.mem_of_getElem? (i := 22) rfl))) rfl rfl (ty := .int) (by decide +kernel) rfl rfl ⟨by decide, by decide⟩ dX8_lock_2 (fun h1 eh1 => ?_)
  have frh1 : Fr [39, 40] hi h1 := (Fr.put (Fr.rf) eh1 (by decide))
  have z1 : h1 = Z0 hi := eh1
  refine z_iload_n (pc := 5) dX8_lock_5 rfl 1 rfl ?_
  refine z_i2l (pc := 6) dX8_lock_6 ⟨by omega, by omega⟩ ?_
  refine z_lconst (pc := 7) (v := 0) dX8_lock_7 (by decide +kernel) ?_
  refine z_ldc2 (pc := 8) (v := 64) (x := 64) (List.mem_cons_of_mem _ (iw9 _ (List.mem_of_getElem? (i := 3) rfl))) (by decide +kernel) dX8_lock_8 ?_
  refine z_callS (pc := 11) (kc := kX8_within) (n := 3) (As := [AL x, AL 0, AL 64]) (stk := []) ct_X8_within (gdS rfl rfl (iw9 _ (List.mem_of_getElem? (i := 9) rfl)) (iw9 _ (List.mem_of_getElem? (i := 10) rfl)) (iw1 _ (List.mem_of_getElem? (i := 5) rfl)) (iw9 _ (List.mem_of_getElem? (i := 11) rfl))) rfl ⟨rfl, rfl⟩ (by decide +kernel) ⟨by decide, by decide⟩ dX8_lock_11 rfl rfl (Nat.le_of_ble_eq_true rfl) ?_
  refine ⟨_, _, _, rfl, ⟨⟨by omega, by omega⟩, ⟨by decide, by decide⟩, ⟨by decide, by decide⟩⟩, fun v2 ev2 => ?_⟩
  refine z_if_ne (pc := 14) (tgt := 19) dX8_lock_14 (by decide) ⟨by omega, by omega⟩ (fun c3 => ?_) (fun c3 => ?_)
  · refine z_aload_n (pc := 19) (x := 40) dX8_lock_19 rfl 0 rfl ?_
    refine z_getR (pc := 20) (pl := 39) (f := 1) (ci := 7) (C := RX8) (T := TX8) (N := 33) hu_X8 (by decide) rfl rfl (by decide) rfl (List.mem_cons_of_mem _ (iw5 _ (List.mem_of_getElem? (i := 5) rfl))) rfl dX8_lock_20 ?_
    refine z_iconst (pc := 23) (v := 1) dX8_lock_23 rfl ?_
    refine z_iald (pc := 24) (pl := 40) (by decide) rfl (by decide) (by decide) (by decide) (by decide) dX8_lock_24 (fun v4 ev4 rv4 => ?_)
    rw [(by rw [eh1]; rfl : h1 40 = hi 40)] at ev4
    replace ev4 : v4 = hi 40 1 := ev4
    refine z_istore_n (pc := 25) (lv' := [(2, AI v4), (0, AR 40), (1, AI x)]) dX8_lock_25 rfl (by decide) rfl ?_
    refine z_aload_n (pc := 26) (x := 40) dX8_lock_26 rfl 1 rfl ?_
    refine z_getR (pc := 27) (pl := 39) (f := 1) (ci := 7) (C := RX8) (T := TX8) (N := 33) hu_X8 (by decide) rfl rfl (by decide) rfl (List.mem_cons_of_mem _ (iw5 _ (List.mem_of_getElem? (i := 5) rfl))) rfl dX8_lock_27 ?_
    refine z_iconst (pc := 30) (v := 1) dX8_lock_30 rfl ?_
    refine z_iload_n (pc := 31) dX8_lock_31 rfl 2 rfl ?_
    refine z_iast (pc := 32) (pl := 40) (by decide) rfl (by decide) (by decide) (by decide) ⟨by omega, by omega⟩ dX8_lock_32 (fun h5 eh5 => ?_)
    replace eh5 : h5 = hput h1 40 (updI (h1 40) 1 x) := eh5
    have frh5 : Fr [39, 40] hi h5 := (Fr.put frh1 eh5 (by decide))
    refine z_iload_n (pc := 33) dX8_lock_33 rfl 0 rfl ?_
    refine z_iret (pc := 34) rfl dX8_lock_34 ?_
    exact hQ v4 h5 ⟨frh5, by first | exact Or.inl ⟨rfl, by omega, z1⟩ | exact Or.inr ⟨by omega, by omega, by rw [eh5, z1]; rfl⟩⟩
  · refine z_iconst (pc := 17) (v := (-1)) dX8_lock_17 rfl ?_
    refine z_iret (pc := 18) rfl dX8_lock_18 ?_
    exact hQ (-1) h1 ⟨frh1, by first | exact Or.inl ⟨rfl, by omega, z1⟩ | exact Or.inr ⟨by omega, by omega, by rw [eh1, z1]; rfl⟩⟩

abbrev kX8_undo : Kd := (cX8_undo, .code yX8_undo cX8_undo 1 (some .int) :: wsL_law0, rmL 2, RX8, (some .int), 1)
theorem ct_X8_undo : Ct kX8_undo yX8_undo (fun a hi Q => a = [AR 40] ∧ (MI hi) ∧ ∀ (v : Int) (h2 : HI), (Fr [39, 40] hi h2 ∧ ((v = -1 ∧ hi 39 6 = 0 ∧ h2 = Z0 hi) ∨ (0 < hi 39 6 ∧ v = hi 39 6 - 1 ∧ h2 39 = updI ((Z0 hi) 39) 6 v ∧ h2 40 = cpyI (hi 42) (hi 40) (166 * v).toNat 0 166))) → Q (AI v) h2) := by
  refine Ct.of (ws' := _) (by decide +kernel) rfl rfl ?_
  intro a hi Q hT
  obtain ⟨rfl, hpre, hQ⟩ := hT
  refine ⟨Nat.le_of_ble_eq_true rfl, ?_⟩
  show Z kX8_undo Q 0 [(0, AR 40)] [] hi
  refine z_aload_n (pc := 0) (x := 40) dX8_undo_0 rfl 0 rfl ?_
  refine z_iconst (pc := 1) (v := 0) dX8_undo_1 rfl ?_
  refine z_putI (pc := 2) (pl := 39) (f := 0) (ci := 7) (C := RX8) (T := TX8) (N := 33) hu_X8 tyX8_ok nmX8 (by decide) rfl rfl (by decide) rfl (List.mem_cons_of_mem _ (iw8 _ (List.mem_of_getElem? (i := 22) rfl))) rfl rfl (ty := .int) (by decide +kernel) rfl rfl ⟨by decide, by decide⟩ dX8_undo_2 (fun h1 eh1 => ?_)
  have frh1 : Fr [39, 40] hi h1 := (Fr.put (Fr.rf) eh1 (by decide))
  have z1 : h1 = Z0 hi := eh1
  have q6 := hpre.2.2
  refine z_aload_n (pc := 5) (x := 40) dX8_undo_5 rfl 0 rfl ?_
  refine z_getI (pc := 6) (pl := 39) (f := 6) (ci := 7) (C := RX8) (T := TX8) (N := 33) hu_X8 (by decide) rfl rfl (by decide) rfl (List.mem_cons_of_mem _ (iw11 _ (List.mem_of_getElem? (i := 8) rfl))) rfl (by decide) dX8_undo_6 (fun v2 ev2 rv2 => ?_)
  rw [(by rw [eh1]; rfl : h1 39 6 = hi 39 6)] at ev2
  refine z_if_ne (pc := 9) (tgt := 14) dX8_undo_9 (by decide) ⟨by omega, by omega⟩ (fun c3 => ?_) (fun c3 => ?_)
  · refine z_aload_n (pc := 14) (x := 40) dX8_undo_14 rfl 0 rfl ?_
    refine z_dup (pc := 15) dX8_undo_15 rfl ?_
    refine z_getI (pc := 16) (pl := 39) (f := 6) (ci := 7) (C := RX8) (T := TX8) (N := 33) hu_X8 (by decide) rfl rfl (by decide) rfl (List.mem_cons_of_mem _ (iw11 _ (List.mem_of_getElem? (i := 8) rfl))) rfl (by decide) dX8_undo_16 (fun v4 ev4 rv4 => ?_)
    rw [(by rw [eh1]; rfl : h1 39 6 = hi 39 6)] at ev4
    refine z_iconst (pc := 19) (v := 1) dX8_undo_19 rfl ?_
    refine z_isub (pc := 20) dX8_undo_20 (fun v5 ev5 => ?_)
    refine z_putI (pc := 21) (pl := 39) (f := 6) (ci := 7) (C := RX8) (T := TX8) (N := 33) hu_X8 tyX8_ok nmX8 (by decide) rfl rfl (by decide) rfl (List.mem_cons_of_mem _ (iw11 _ (List.mem_of_getElem? (i := 8) rfl))) rfl rfl (ty := .int) (by decide +kernel) rfl rfl ⟨by omega, by omega⟩ dX8_undo_21 (fun h6 eh6 => ?_)
    have frh6 : Fr [39, 40] hi h6 := (Fr.put frh1 eh6 (by decide))
    have w21 := eh6
    refine z_aload_n (pc := 24) (x := 40) dX8_undo_24 rfl 0 rfl ?_
    refine z_getR (pc := 25) (pl := 39) (f := 3) (ci := 7) (C := RX8) (T := TX8) (N := 33) hu_X8 (by decide) rfl rfl (by decide) rfl (List.mem_cons_of_mem _ (iw5 _ (List.mem_of_getElem? (i := 7) rfl))) rfl dX8_undo_25 ?_
    refine z_sipush (pc := 28) (v := 166) dX8_undo_28 (by decide +kernel) ?_
    refine z_aload_n (pc := 31) (x := 40) dX8_undo_31 rfl 0 rfl ?_
    refine z_getI (pc := 32) (pl := 39) (f := 6) (ci := 7) (C := RX8) (T := TX8) (N := 33) hu_X8 (by decide) rfl rfl (by decide) rfl (List.mem_cons_of_mem _ (iw11 _ (List.mem_of_getElem? (i := 8) rfl))) rfl (by decide) dX8_undo_32 (fun v7 ev7 rv7 => ?_)
    rw [(by rw [eh6]; rfl : h6 39 6 = v5)] at ev7
    refine z_imul (pc := 35) dX8_undo_35 (fun v8 ev8 => ?_)
    refine z_aload_n (pc := 36) (x := 40) dX8_undo_36 rfl 0 rfl ?_
    refine z_getR (pc := 37) (pl := 39) (f := 1) (ci := 7) (C := RX8) (T := TX8) (N := 33) hu_X8 (by decide) rfl rfl (by decide) rfl (List.mem_cons_of_mem _ (iw5 _ (List.mem_of_getElem? (i := 5) rfl))) rfl dX8_undo_37 ?_
    refine z_iconst (pc := 40) (v := 0) dX8_undo_40 rfl ?_
    refine z_callS (pc := 41) (kc := kX8_copies) (n := 4) (As := [AR 43, AI v8, AR 41, AI 0]) (stk := []) ct_X8_copies_pn (gdS rfl rfl (iw9 _ (List.mem_of_getElem? (i := 16) rfl)) (iw9 _ (List.mem_of_getElem? (i := 17) rfl)) (iw1 _ (List.mem_of_getElem? (i := 5) rfl)) (iw9 _ (List.mem_of_getElem? (i := 18) rfl))) rfl ⟨rfl, rfl⟩ (by decide +kernel) ⟨by decide, by decide⟩ dX8_undo_41 rfl rfl (Nat.le_of_ble_eq_true rfl) ?_
    refine ⟨_, _, rfl, by omega, fun h9 eh9 => ?_⟩
    have frh9 : Fr [39, 40] hi h9 := (Fr.call frh6 eh9.1 (by decide))
    try rw [(by rw [eh6]; rfl : h6 42 = h1 42), (by rw [eh1]; rfl : h1 42 = hi 42)] at eh9
    try rw [(by rw [eh6]; rfl : h6 40 = h1 40), (by rw [eh1]; rfl : h1 40 = hi 40)] at eh9
    have w41 := eh9.2
    refine z_aload_n (pc := 44) (x := 40) dX8_undo_44 rfl 0 rfl ?_
    refine z_getI (pc := 45) (pl := 39) (f := 6) (ci := 7) (C := RX8) (T := TX8) (N := 33) hu_X8 (by decide) rfl rfl (by decide) rfl (List.mem_cons_of_mem _ (iw11 _ (List.mem_of_getElem? (i := 8) rfl))) rfl (by decide) dX8_undo_45 (fun v10 ev10 rv10 => ?_)
    rw [(congrFun (eh9.1 39 (by decide)) 6 : h9 39 6 = h6 39 6), (by rw [eh6]; rfl : h6 39 6 = v5)] at ev10
    refine z_iret (pc := 48) rfl dX8_undo_48 ?_
    exact hQ v10 h9 ⟨frh9, by first | exact Or.inl ⟨rfl, by omega, z1⟩ | exact Or.inr ⟨by omega, by omega, und_39 z1 w21 w41 (by omega), und_40 w41 (by omega)⟩⟩
  · refine z_iconst (pc := 12) (v := (-1)) dX8_undo_12 rfl ?_
    refine z_iret (pc := 13) rfl dX8_undo_13 ?_
    exact hQ (-1) h1 ⟨frh1, by first | exact Or.inl ⟨rfl, by omega, z1⟩ | exact Or.inr ⟨by omega, by omega, und_39 z1 w21 w41 (by omega), und_40 w41 (by omega)⟩⟩

abbrev kX8_keep : Kd := (cX8_keep, .code yX8_keep cX8_keep 3 (some .boolean) :: wsL_law0, rmL 2, RX8, (some .boolean), 3)
theorem ct_X8_keep : Ct kX8_keep yX8_keep (fun a hi Q => ∃ k : Int, ∃ b : Int, a = [AR 40, AI k, AI b] ∧ (inR k ∧ (b = 0 ∨ b = 1)) ∧ ∀ (v : Int) (h2 : HI), (Fr [39, 40, 43, 44] hi h2 ∧ ((v = 0 ∧ (¬ (0 ≤ k ∧ k ≤ 1) ∨ (b = 1 ∧ hi 44 k.toNat = 0)) ∧ h2 = Z0 hi) ∨ (v = 1 ∧ (0 ≤ k ∧ k ≤ 1) ∧ b = 1 ∧ hi 44 k.toNat ≠ 0 ∧ h2 39 = updI ((Z0 hi) 39) 6 0 ∧ h2 40 = cpyI (hi 43) (hi 40) (166 * k).toNat 0 166 ∧ h2 43 = hi 43 ∧ h2 44 = hi 44) ∨ (v = 1 ∧ (0 ≤ k ∧ k ≤ 1) ∧ b = 0 ∧ h2 39 = (Z0 hi) 39 ∧ h2 40 = hi 40 ∧ h2 43 = cpyI (hi 40) (hi 43) 0 (166 * k).toNat 166 ∧ h2 44 = updI (hi 44) k.toNat 1))) → Q (AI v) h2) := by
  refine Ct.of (ws' := _) (by decide +kernel) rfl rfl ?_
  intro a hi Q hT
  obtain ⟨k, b, rfl, hpre, hQ⟩ := hT
  refine ⟨Nat.le_of_ble_eq_true rfl, ?_⟩
  show Z kX8_keep Q 0 [(0, AR 40), (1, AI k), (2, AI b)] [] hi
  refine z_aload_n (pc := 0) (x := 40) dX8_keep_0 rfl 0 rfl ?_
  refine z_iconst (pc := 1) (v := 0) dX8_keep_1 rfl ?_
  refine z_putI (pc := 2) (pl := 39) (f := 0) (ci := 7) (C := RX8) (T := TX8) (N := 33) hu_X8 tyX8_ok nmX8 (by decide) rfl rfl (by decide) rfl (List.mem_cons_of_mem _ (iw8 _ (List.mem_of_getElem? (i := 22) rfl))) rfl rfl (ty := .int) (by decide +kernel) rfl rfl ⟨by decide, by decide⟩ dX8_keep_2 (fun h1 eh1 => ?_)
  have frh1 : Fr [39, 40, 43, 44] hi h1 := (Fr.put (Fr.rf) eh1 (by decide))
  have z1 : h1 = Z0 hi := eh1
  refine z_iload_n (pc := 5) dX8_keep_5 rfl 1 rfl ?_
  refine z_i2l (pc := 6) dX8_keep_6 ⟨by omega, by omega⟩ ?_
  refine z_lconst (pc := 7) (v := 0) dX8_keep_7 (by decide +kernel) ?_
  refine z_lconst (pc := 8) (v := 1) dX8_keep_8 (by decide +kernel) ?_
  refine z_callS (pc := 9) (kc := kX8_within) (n := 3) (As := [AL k, AL 0, AL 1]) (stk := []) ct_X8_within (gdS rfl rfl (iw9 _ (List.mem_of_getElem? (i := 9) rfl)) (iw9 _ (List.mem_of_getElem? (i := 10) rfl)) (iw1 _ (List.mem_of_getElem? (i := 5) rfl)) (iw9 _ (List.mem_of_getElem? (i := 11) rfl))) rfl ⟨rfl, rfl⟩ (by decide +kernel) ⟨by decide, by decide⟩ dX8_keep_9 rfl rfl (Nat.le_of_ble_eq_true rfl) ?_
  refine ⟨_, _, _, rfl, ⟨⟨by omega, by omega⟩, ⟨by decide, by decide⟩, ⟨by decide, by decide⟩⟩, fun v2 ev2 => ?_⟩
  refine z_if_eq (pc := 12) (tgt := 28) dX8_keep_12 (by decide) ⟨by omega, by omega⟩ (fun c3 => ?_) (fun c3 => ?_)
  · refine z_iconst (pc := 28) (v := 0) dX8_keep_28 rfl ?_
    refine z_zret (pc := 29) rfl (by decide) dX8_keep_29 ?_
    exact hQ 0 h1 ⟨frh1, by first | exact Or.inl ⟨rfl, by omega, z1⟩ | exact Or.inr (Or.inl ⟨rfl, by omega, by omega, by omega, kep_1 z1 w48 w53 (by omega)⟩) | exact Or.inr (Or.inr ⟨rfl, by omega, by omega, kep_0 z1 w73 w82 (by omega)⟩)⟩
  · refine z_iload_n (pc := 15) dX8_keep_15 rfl 2 rfl ?_
    refine z_if_eq (pc := 16) (tgt := 30) dX8_keep_16 (by decide) ⟨by omega, by omega⟩ (fun c4 => ?_) (fun c4 => ?_)
    · refine z_iload_n (pc := 30) dX8_keep_30 rfl 2 rfl ?_
      refine z_if_eq (pc := 31) (tgt := 59) dX8_keep_31 (by decide) ⟨by omega, by omega⟩ (fun c5 => ?_) (fun c5 => ?_)
      · refine z_aload_n (pc := 59) (x := 40) dX8_keep_59 rfl 0 rfl ?_
        refine z_getR (pc := 60) (pl := 39) (f := 1) (ci := 7) (C := RX8) (T := TX8) (N := 33) hu_X8 (by decide) rfl rfl (by decide) rfl (List.mem_cons_of_mem _ (iw5 _ (List.mem_of_getElem? (i := 5) rfl))) rfl dX8_keep_60 ?_
        refine z_iconst (pc := 63) (v := 0) dX8_keep_63 rfl ?_
        refine z_aload_n (pc := 64) (x := 40) dX8_keep_64 rfl 0 rfl ?_
        refine z_getR (pc := 65) (pl := 39) (f := 4) (ci := 7) (C := RX8) (T := TX8) (N := 33) hu_X8 (by decide) rfl rfl (by decide) rfl (List.mem_cons_of_mem _ (iw5 _ (List.mem_of_getElem? (i := 8) rfl))) rfl dX8_keep_65 ?_
        refine z_sipush (pc := 68) (v := 166) dX8_keep_68 (by decide +kernel) ?_
        refine z_iload_n (pc := 71) dX8_keep_71 rfl 1 rfl ?_
        refine z_imul (pc := 72) dX8_keep_72 (fun v6 ev6 => ?_)
        refine z_callS (pc := 73) (kc := kX8_copies) (n := 4) (As := [AR 41, AI 0, AR 44, AI v6]) (stk := []) ct_X8_copies_nk (gdS rfl rfl (iw9 _ (List.mem_of_getElem? (i := 16) rfl)) (iw9 _ (List.mem_of_getElem? (i := 17) rfl)) (iw1 _ (List.mem_of_getElem? (i := 5) rfl)) (iw9 _ (List.mem_of_getElem? (i := 18) rfl))) rfl ⟨rfl, rfl⟩ (by decide +kernel) ⟨by decide, by decide⟩ dX8_keep_73 rfl rfl (Nat.le_of_ble_eq_true rfl) ?_
        refine ⟨_, _, rfl, by omega, fun h7 eh7 => ?_⟩
        have frh7 : Fr [39, 40, 43, 44] hi h7 := (Fr.call frh1 eh7.1 (by decide))
        try rw [(by rw [eh1]; rfl : h1 40 = hi 40)] at eh7
        try rw [(by rw [eh1]; rfl : h1 43 = hi 43)] at eh7
        have w73 := eh7.2
        refine z_aload_n (pc := 76) (x := 40) dX8_keep_76 rfl 0 rfl ?_
        refine z_getR (pc := 77) (pl := 39) (f := 5) (ci := 7) (C := RX8) (T := TX8) (N := 33) hu_X8 (by decide) rfl rfl (by decide) rfl (List.mem_cons_of_mem _ (iw5 _ (List.mem_of_getElem? (i := 9) rfl))) rfl dX8_keep_77 ?_
        refine z_iload_n (pc := 80) dX8_keep_80 rfl 1 rfl ?_
        refine z_iconst (pc := 81) (v := 1) dX8_keep_81 rfl ?_
        refine z_zast (pc := 82) (pl := 44) (by decide) rfl (by decide) (by omega) (by omega) (by decide) dX8_keep_82 (fun h8 eh8 => ?_)
        have frh8 : Fr [39, 40, 43, 44] hi h8 := (Fr.put frh7 eh8 (by decide))
        have w82 := eh8
        refine z_iconst (pc := 83) (v := 1) dX8_keep_83 rfl ?_
        refine z_zret (pc := 84) rfl (by decide) dX8_keep_84 ?_
        exact hQ 1 h8 ⟨frh8, by first | exact Or.inl ⟨rfl, by omega, z1⟩ | exact Or.inr (Or.inl ⟨rfl, by omega, by omega, by omega, kep_1 z1 w48 w53 (by omega)⟩) | exact Or.inr (Or.inr ⟨rfl, by omega, by omega, kep_0 z1 w73 w82 (by omega)⟩)⟩
      · refine z_aload_n (pc := 34) (x := 40) dX8_keep_34 rfl 0 rfl ?_
        refine z_getR (pc := 35) (pl := 39) (f := 4) (ci := 7) (C := RX8) (T := TX8) (N := 33) hu_X8 (by decide) rfl rfl (by decide) rfl (List.mem_cons_of_mem _ (iw5 _ (List.mem_of_getElem? (i := 8) rfl))) rfl dX8_keep_35 ?_
        refine z_sipush (pc := 38) (v := 166) dX8_keep_38 (by decide +kernel) ?_
        refine z_iload_n (pc := 41) dX8_keep_41 rfl 1 rfl ?_
        refine z_imul (pc := 42) dX8_keep_42 (fun v9 ev9 => ?_)
        refine z_aload_n (pc := 43) (x := 40) dX8_keep_43 rfl 0 rfl ?_
        refine z_getR (pc := 44) (pl := 39) (f := 1) (ci := 7) (C := RX8) (T := TX8) (N := 33) hu_X8 (by decide) rfl rfl (by decide) rfl (List.mem_cons_of_mem _ (iw5 _ (List.mem_of_getElem? (i := 5) rfl))) rfl dX8_keep_44 ?_
        refine z_iconst (pc := 47) (v := 0) dX8_keep_47 rfl ?_
        refine z_callS (pc := 48) (kc := kX8_copies) (n := 4) (As := [AR 44, AI v9, AR 41, AI 0]) (stk := []) ct_X8_copies_kn (gdS rfl rfl (iw9 _ (List.mem_of_getElem? (i := 16) rfl)) (iw9 _ (List.mem_of_getElem? (i := 17) rfl)) (iw1 _ (List.mem_of_getElem? (i := 5) rfl)) (iw9 _ (List.mem_of_getElem? (i := 18) rfl))) rfl ⟨rfl, rfl⟩ (by decide +kernel) ⟨by decide, by decide⟩ dX8_keep_48 rfl rfl (Nat.le_of_ble_eq_true rfl) ?_
        refine ⟨_, _, rfl, by omega, fun h10 eh10 => ?_⟩
        have frh10 : Fr [39, 40, 43, 44] hi h10 := (Fr.call frh1 eh10.1 (by decide))
        try rw [(by rw [eh1]; rfl : h1 43 = hi 43)] at eh10
        try rw [(by rw [eh1]; rfl : h1 40 = hi 40)] at eh10
        have w48 := eh10.2
        refine z_aload_n (pc := 51) (x := 40) dX8_keep_51 rfl 0 rfl ?_
        refine z_iconst (pc := 52) (v := 0) dX8_keep_52 rfl ?_
        refine z_putI (pc := 53) (pl := 39) (f := 6) (ci := 7) (C := RX8) (T := TX8) (N := 33) hu_X8 tyX8_ok nmX8 (by decide) rfl rfl (by decide) rfl (List.mem_cons_of_mem _ (iw11 _ (List.mem_of_getElem? (i := 8) rfl))) rfl rfl (ty := .int) (by decide +kernel) rfl rfl ⟨by decide, by decide⟩ dX8_keep_53 (fun h11 eh11 => ?_)
        have frh11 : Fr [39, 40, 43, 44] hi h11 := (Fr.put frh10 eh11 (by decide))
        have w53 := eh11
        refine z_goto (pc := 56) (tgt := 83) dX8_keep_56 (by decide) ?_
        refine z_iconst (pc := 83) (v := 1) dX8_keep_83 rfl ?_
        refine z_zret (pc := 84) rfl (by decide) dX8_keep_84 ?_
        exact hQ 1 h11 ⟨frh11, by first | exact Or.inl ⟨rfl, by omega, z1⟩ | exact Or.inr (Or.inl ⟨rfl, by omega, by omega, by omega, kep_1 z1 w48 w53 (by omega)⟩) | exact Or.inr (Or.inr ⟨rfl, by omega, by omega, kep_0 z1 w73 w82 (by omega)⟩)⟩
    · refine z_aload_n (pc := 19) (x := 40) dX8_keep_19 rfl 0 rfl ?_
      refine z_getR (pc := 20) (pl := 39) (f := 5) (ci := 7) (C := RX8) (T := TX8) (N := 33) hu_X8 (by decide) rfl rfl (by decide) rfl (List.mem_cons_of_mem _ (iw5 _ (List.mem_of_getElem? (i := 9) rfl))) rfl dX8_keep_20 ?_
      refine z_iload_n (pc := 23) dX8_keep_23 rfl 1 rfl ?_
      refine z_zald (pc := 24) (pl := 44) (by decide) rfl (by decide) (by decide) (by omega) (by omega) dX8_keep_24 (fun v12 ev12 rv12 => ?_)
      rw [(by rw [eh1]; rfl : h1 44 = hi 44)] at ev12
      refine z_if_ne (pc := 25) (tgt := 30) dX8_keep_25 (by decide) ⟨by omega, by omega⟩ (fun c13 => ?_) (fun c13 => ?_)
      · refine z_iload_n (pc := 30) dX8_keep_30 rfl 2 rfl ?_
        refine z_if_eq (pc := 31) (tgt := 59) dX8_keep_31 (by decide) ⟨by omega, by omega⟩ (fun c14 => ?_) (fun c14 => ?_)
        · refine z_aload_n (pc := 59) (x := 40) dX8_keep_59 rfl 0 rfl ?_
          refine z_getR (pc := 60) (pl := 39) (f := 1) (ci := 7) (C := RX8) (T := TX8) (N := 33) hu_X8 (by decide) rfl rfl (by decide) rfl (List.mem_cons_of_mem _ (iw5 _ (List.mem_of_getElem? (i := 5) rfl))) rfl dX8_keep_60 ?_
          refine z_iconst (pc := 63) (v := 0) dX8_keep_63 rfl ?_
          refine z_aload_n (pc := 64) (x := 40) dX8_keep_64 rfl 0 rfl ?_
          refine z_getR (pc := 65) (pl := 39) (f := 4) (ci := 7) (C := RX8) (T := TX8) (N := 33) hu_X8 (by decide) rfl rfl (by decide) rfl (List.mem_cons_of_mem _ (iw5 _ (List.mem_of_getElem? (i := 8) rfl))) rfl dX8_keep_65 ?_
          refine z_sipush (pc := 68) (v := 166) dX8_keep_68 (by decide +kernel) ?_
          refine z_iload_n (pc := 71) dX8_keep_71 rfl 1 rfl ?_
          refine z_imul (pc := 72) dX8_keep_72 (fun v15 ev15 => ?_)
          refine z_callS (pc := 73) (kc := kX8_copies) (n := 4) (As := [AR 41, AI 0, AR 44, AI v15]) (stk := []) ct_X8_copies_nk (gdS rfl rfl (iw9 _ (List.mem_of_getElem? (i := 16) rfl)) (iw9 _ (List.mem_of_getElem? (i := 17) rfl)) (iw1 _ (List.mem_of_getElem? (i := 5) rfl)) (iw9 _ (List.mem_of_getElem? (i := 18) rfl))) rfl ⟨rfl, rfl⟩ (by decide +kernel) ⟨by decide, by decide⟩ dX8_keep_73 rfl rfl (Nat.le_of_ble_eq_true rfl) ?_
          refine ⟨_, _, rfl, by omega, fun h16 eh16 => ?_⟩
          have frh16 : Fr [39, 40, 43, 44] hi h16 := (Fr.call frh1 eh16.1 (by decide))
          try rw [(by rw [eh1]; rfl : h1 40 = hi 40)] at eh16
          try rw [(by rw [eh1]; rfl : h1 43 = hi 43)] at eh16
          have w73 := eh16.2
          refine z_aload_n (pc := 76) (x := 40) dX8_keep_76 rfl 0 rfl ?_
          refine z_getR (pc := 77) (pl := 39) (f := 5) (ci := 7) (C := RX8) (T := TX8) (N := 33) hu_X8 (by decide) rfl rfl (by decide) rfl (List.mem_cons_of_mem _ (iw5 _ (List.mem_of_getElem? (i := 9) rfl))) rfl dX8_keep_77 ?_
          refine z_iload_n (pc := 80) dX8_keep_80 rfl 1 rfl ?_
          refine z_iconst (pc := 81) (v := 1) dX8_keep_81 rfl ?_
          refine z_zast (pc := 82) (pl := 44) (by decide) rfl (by decide) (by omega) (by omega) (by decide) dX8_keep_82 (fun h17 eh17 => ?_)
          have frh17 : Fr [39, 40, 43, 44] hi h17 := (Fr.put frh16 eh17 (by decide))
          have w82 := eh17
          refine z_iconst (pc := 83) (v := 1) dX8_keep_83 rfl ?_
          refine z_zret (pc := 84) rfl (by decide) dX8_keep_84 ?_
          exact hQ 1 h17 ⟨frh17, by first | exact Or.inl ⟨rfl, by omega, z1⟩ | exact Or.inr (Or.inl ⟨rfl, by omega, by omega, by omega, kep_1 z1 w48 w53 (by omega)⟩) | exact Or.inr (Or.inr ⟨rfl, by omega, by omega, kep_0 z1 w73 w82 (by omega)⟩)⟩
        · refine z_aload_n (pc := 34) (x := 40) dX8_keep_34 rfl 0 rfl ?_
          refine z_getR (pc := 35) (pl := 39) (f := 4) (ci := 7) (C := RX8) (T := TX8) (N := 33) hu_X8 (by decide) rfl rfl (by decide) rfl (List.mem_cons_of_mem _ (iw5 _ (List.mem_of_getElem? (i := 8) rfl))) rfl dX8_keep_35 ?_
          refine z_sipush (pc := 38) (v := 166) dX8_keep_38 (by decide +kernel) ?_
          refine z_iload_n (pc := 41) dX8_keep_41 rfl 1 rfl ?_
          refine z_imul (pc := 42) dX8_keep_42 (fun v18 ev18 => ?_)
          refine z_aload_n (pc := 43) (x := 40) dX8_keep_43 rfl 0 rfl ?_
          refine z_getR (pc := 44) (pl := 39) (f := 1) (ci := 7) (C := RX8) (T := TX8) (N := 33) hu_X8 (by decide) rfl rfl (by decide) rfl (List.mem_cons_of_mem _ (iw5 _ (List.mem_of_getElem? (i := 5) rfl))) rfl dX8_keep_44 ?_
          refine z_iconst (pc := 47) (v := 0) dX8_keep_47 rfl ?_
          refine z_callS (pc := 48) (kc := kX8_copies) (n := 4) (As := [AR 44, AI v18, AR 41, AI 0]) (stk := []) ct_X8_copies_kn (gdS rfl rfl (iw9 _ (List.mem_of_getElem? (i := 16) rfl)) (iw9 _ (List.mem_of_getElem? (i := 17) rfl)) (iw1 _ (List.mem_of_getElem? (i := 5) rfl)) (iw9 _ (List.mem_of_getElem? (i := 18) rfl))) rfl ⟨rfl, rfl⟩ (by decide +kernel) ⟨by decide, by decide⟩ dX8_keep_48 rfl rfl (Nat.le_of_ble_eq_true rfl) ?_
          refine ⟨_, _, rfl, by omega, fun h19 eh19 => ?_⟩
          have frh19 : Fr [39, 40, 43, 44] hi h19 := (Fr.call frh1 eh19.1 (by decide))
          try rw [(by rw [eh1]; rfl : h1 43 = hi 43)] at eh19
          try rw [(by rw [eh1]; rfl : h1 40 = hi 40)] at eh19
          have w48 := eh19.2
          refine z_aload_n (pc := 51) (x := 40) dX8_keep_51 rfl 0 rfl ?_
          refine z_iconst (pc := 52) (v := 0) dX8_keep_52 rfl ?_
          refine z_putI (pc := 53) (pl := 39) (f := 6) (ci := 7) (C := RX8) (T := TX8) (N := 33) hu_X8 tyX8_ok nmX8 (by decide) rfl rfl (by decide) rfl (List.mem_cons_of_mem _ (iw11 _ (List.mem_of_getElem? (i := 8) rfl))) rfl rfl (ty := .int) (by decide +kernel) rfl rfl ⟨by decide, by decide⟩ dX8_keep_53 (fun h20 eh20 => ?_)
          have frh20 : Fr [39, 40, 43, 44] hi h20 := (Fr.put frh19 eh20 (by decide))
          have w53 := eh20
          refine z_goto (pc := 56) (tgt := 83) dX8_keep_56 (by decide) ?_
          refine z_iconst (pc := 83) (v := 1) dX8_keep_83 rfl ?_
          refine z_zret (pc := 84) rfl (by decide) dX8_keep_84 ?_
          exact hQ 1 h20 ⟨frh20, by first | exact Or.inl ⟨rfl, by omega, z1⟩ | exact Or.inr (Or.inl ⟨rfl, by omega, by omega, by omega, kep_1 z1 w48 w53 (by omega)⟩) | exact Or.inr (Or.inr ⟨rfl, by omega, by omega, kep_0 z1 w73 w82 (by omega)⟩)⟩
      · refine z_iconst (pc := 28) (v := 0) dX8_keep_28 rfl ?_
        refine z_zret (pc := 29) rfl (by decide) dX8_keep_29 ?_
        exact hQ 0 h1 ⟨frh1, by first | exact Or.inl ⟨rfl, by omega, z1⟩ | exact Or.inr (Or.inl ⟨rfl, by omega, by omega, by omega, kep_1 z1 w48 w53 (by omega)⟩) | exact Or.inr (Or.inr ⟨rfl, by omega, by omega, kep_0 z1 w73 w82 (by omega)⟩)⟩

theorem put_at {hi h2 : HI} {p : Nat} {g : Nat → Int} (e : h2 = hput hi p g) : h2 p = g := by rw [e]; exact hput_same _ _ _
theorem put_ne {hi h2 : HI} {p q : Nat} {g : Nat → Int} (e : h2 = hput hi p g) (h : q ≠ p) : h2 q = hi q := by rw [e]; exact hput_ne _ _ h
/-- the bytes of an int -/
def b4 (x i : Int) : Int := if i = 0 then x / 16777216 % 256 else if i = 1 then x / 65536 % 256 else if i = 2 then x / 256 % 256 else x % 256
/-- four bytes laid at n: as they are, and with signs -/
def F4 (f g : Nat → Int) (n x : Int) : Prop := ∀ j : Nat, (n ≤ j ∧ (j : Int) < n + 4 → g j = b4 x (j - n)) ∧ (¬ (n ≤ j ∧ (j : Int) < n + 4) → g j = f j)
def F4m (f g : Nat → Int) (n x : Int) : Prop := ∀ j : Nat, (n ≤ j ∧ (j : Int) < n + 4 → g j % 256 = b4 x (j - n)) ∧ (¬ (n ≤ j ∧ (j : Int) < n + 4) → g j = f j)
theorem b4_0 (x : Int) : b4 x 0 = x / 16777216 % 256 := rfl
theorem b4_1 (x : Int) : b4 x 1 = x / 65536 % 256 := rfl
theorem b4_2 (x : Int) : b4 x 2 = x / 256 % 256 := rfl
theorem b4_3 (x : Int) : b4 x 3 = x % 256 := rfl
theorem f4_at {f g1 g2 g3 g4 : Nat → Int} {n n1 n2 n3 y0 y1 y2 y3 : Int} (e1 : g1 = updI f n.toNat y0) (e2 : g2 = updI g1 n1.toNat y1) (e3 : g3 = updI g2 n2.toNat y2) (e4 : g4 = updI g3 n3.toNat y3) (h0 : 0 ≤ n) (h1 : n1 = n + 1) (h2 : n2 = n + 2) (h3 : n3 = n + 3) : g4 n.toNat = y0 ∧ g4 (n + 1).toNat = y1 ∧ g4 (n + 2).toNat = y2 ∧ g4 (n + 3).toNat = y3 ∧ ∀ j : Nat, ¬ (n ≤ j ∧ (j : Int) < n + 4) → g4 j = f j := by
  subst h1; subst h2; subst h3
  have key : ∀ j : Nat, g4 j = if j = (n + 3).toNat then y3 else if j = (n + 2).toNat then y2 else if j = (n + 1).toNat then y1 else if j = n.toNat then y0 else f j := fun j => by rw [e4, e3, e2, e1]; rfl
  refine ⟨?_, ?_, ?_, ?_, fun j hj => ?_⟩
  · rw [key, if_neg (by omega), if_neg (by omega), if_neg (by omega), if_pos rfl]
  · rw [key, if_neg (by omega), if_neg (by omega), if_pos rfl]
  · rw [key, if_neg (by omega), if_pos rfl]
  · rw [key, if_pos rfl]
  · rw [key, if_neg (by omega), if_neg (by omega), if_neg (by omega), if_neg (by omega)]
theorem f4_mk {f g1 g2 g3 g4 : Nat → Int} {n n1 n2 n3 y0 y1 y2 y3 x : Int} (e1 : g1 = updI f n.toNat y0) (e2 : g2 = updI g1 n1.toNat y1) (e3 : g3 = updI g2 n2.toNat y2) (e4 : g4 = updI g3 n3.toNat y3) (h0 : 0 ≤ n) (h1 : n1 = n + 1) (h2 : n2 = n + 2) (h3 : n3 = n + 3) (q0 : y0 = x / 16777216 % 256) (q1 : y1 = x / 65536 % 256) (q2 : y2 = x / 256 % 256) (q3 : y3 = x % 256) : F4 f g4 n x := by
  obtain ⟨a0, a1, a2, a3, a4⟩ := f4_at e1 e2 e3 e4 h0 h1 h2 h3
  refine fun j => ⟨fun hj => ?_, a4 j⟩
  rcases (show j = n.toNat ∨ j = (n + 1).toNat ∨ j = (n + 2).toNat ∨ j = (n + 3).toNat by omega) with c | c | c | c
  · rw [show (j : Int) - n = 0 by omega, b4_0, c, a0, q0]
  · rw [show (j : Int) - n = 1 by omega, b4_1, c, a1, q1]
  · rw [show (j : Int) - n = 2 by omega, b4_2, c, a2, q2]
  · rw [show (j : Int) - n = 3 by omega, b4_3, c, a3, q3]
theorem f4m_mk {f g1 g2 g3 g4 : Nat → Int} {n n1 n2 n3 y0 y1 y2 y3 x : Int} (e1 : g1 = updI f n.toNat y0) (e2 : g2 = updI g1 n1.toNat y1) (e3 : g3 = updI g2 n2.toNat y2) (e4 : g4 = updI g3 n3.toNat y3) (h0 : 0 ≤ n) (h1 : n1 = n + 1) (h2 : n2 = n + 2) (h3 : n3 = n + 3) (q0 : y0 % 256 = x / 16777216 % 256) (q1 : y1 % 256 = x / 65536 % 256) (q2 : y2 % 256 = x / 256 % 256) (q3 : y3 % 256 = x % 256) : F4m f g4 n x := by
  obtain ⟨a0, a1, a2, a3, a4⟩ := f4_at e1 e2 e3 e4 h0 h1 h2 h3
  refine fun j => ⟨fun hj => ?_, a4 j⟩
  rcases (show j = n.toNat ∨ j = (n + 1).toNat ∨ j = (n + 2).toNat ∨ j = (n + 3).toNat by omega) with c | c | c | c
  · rw [show (j : Int) - n = 0 by omega, b4_0, c, a0, q0]
  · rw [show (j : Int) - n = 1 by omega, b4_1, c, a1, q1]
  · rw [show (j : Int) - n = 2 by omega, b4_2, c, a2, q2]
  · rw [show (j : Int) - n = 3 by omega, b4_3, c, a3, q3]
abbrev kX6_addByte : Kd := (cX6_addByte, .code yX6_addByte cX6_addByte 2 none :: wsL_law0, rmL 1, RX6, none, 2)
theorem ct_X6_addByte : Ct kX6_addByte yX6_addByte (fun a hi Q => ∃ x : Int, a = [AR 30, AI x] ∧ (0 ≤ hi 29 1 ∧ hi 29 1 < 600) ∧ ∀ h2 : HI, (Fr [29, 30] hi h2 ∧ (h2 29 = updI (hi 29) 1 (hi 29 1 + 1) ∧ h2 30 = updI (hi 30) (hi 29 1).toNat (x % 256))) → Q AU h2) := by
  refine Ct.of (ws' := _) (by decide +kernel) rfl rfl ?_
  intro a hi Q hT
  obtain ⟨x, rfl, hpre, hQ⟩ := hT
  refine ⟨Nat.le_of_ble_eq_true rfl, ?_⟩
  show Z kX6_addByte Q 0 [(0, AR 30), (1, AI x)] [] hi
  refine z_aload_n (pc := 0) (x := 30) dX6_addByte_0 rfl 0 rfl ?_
  refine z_getI (pc := 1) (pl := 29) (f := 1) (ci := 5) (C := RX6) (T := TX6) (N := 9) hu_X6 (by decide) rfl rfl (by decide) rfl (List.mem_cons_of_mem _ (iw3 _ (List.mem_of_getElem? (i := 14) rfl))) rfl (by decide) dX6_addByte_1 (fun v1 ev1 rv1 => ?_)
  refine z_if_lt (pc := 4) (tgt := 41) dX6_addByte_4 (by decide) ⟨by omega, by omega⟩ (fun c2 => ?_) (fun c2 => ?_)
  · refine z_vret (pc := 41) rfl dX6_addByte_41 ?_
    exact hQ hi ⟨(Fr.rf), by first | (exfalso; omega) | exact ⟨by rw [w38, hput_same, w30, hput_ne _ _ (by decide)]; congr 1; omega, by rw [w38, hput_ne _ _ (by decide), w30, hput_same, and255 w29]; congr 2⟩⟩
  · refine z_aload_n (pc := 7) (x := 30) dX6_addByte_7 rfl 0 rfl ?_
    refine z_getI (pc := 8) (pl := 29) (f := 1) (ci := 5) (C := RX6) (T := TX6) (N := 9) hu_X6 (by decide) rfl rfl (by decide) rfl (List.mem_cons_of_mem _ (iw3 _ (List.mem_of_getElem? (i := 14) rfl))) rfl (by decide) dX6_addByte_8 (fun v3 ev3 rv3 => ?_)
    refine z_sipush (pc := 11) (v := 600) dX6_addByte_11 (by decide +kernel) ?_
    refine z_icmp_ge (pc := 14) (tgt := 41) dX6_addByte_14 (by decide) ⟨by omega, by omega⟩ ⟨by decide, by decide⟩ (fun c4 => ?_) (fun c4 => ?_)
    · refine z_vret (pc := 41) rfl dX6_addByte_41 ?_
      exact hQ hi ⟨(Fr.rf), by first | (exfalso; omega) | exact ⟨by rw [w38, hput_same, w30, hput_ne _ _ (by decide)]; congr 1; omega, by rw [w38, hput_ne _ _ (by decide), w30, hput_same, and255 w29]; congr 2⟩⟩
    · refine z_aload_n (pc := 17) (x := 30) dX6_addByte_17 rfl 0 rfl ?_
      refine z_getR (pc := 18) (pl := 29) (f := 0) (ci := 5) (C := RX6) (T := TX6) (N := 9) hu_X6 (by decide) rfl rfl (by decide) rfl (List.mem_cons_of_mem _ (iw3 _ (List.mem_of_getElem? (i := 13) rfl))) rfl dX6_addByte_18 ?_
      refine z_aload_n (pc := 21) (x := 30) dX6_addByte_21 rfl 0 rfl ?_
      refine z_getI (pc := 22) (pl := 29) (f := 1) (ci := 5) (C := RX6) (T := TX6) (N := 9) hu_X6 (by decide) rfl rfl (by decide) rfl (List.mem_cons_of_mem _ (iw3 _ (List.mem_of_getElem? (i := 14) rfl))) rfl (by decide) dX6_addByte_22 (fun v5 ev5 rv5 => ?_)
      refine z_iload_n (pc := 25) dX6_addByte_25 rfl 1 rfl ?_
      refine z_sipush (pc := 26) (v := 255) dX6_addByte_26 (by decide +kernel) ?_
      refine z_iand (pc := 29) dX6_addByte_29 (fun v6 ev6 => ?_)
      have bv6 := toI_inR ev6
      have w29 := ev6
      refine z_iast (pc := 30) (pl := 30) (by decide) rfl (by decide) (by omega) (by omega) ⟨by omega, by omega⟩ dX6_addByte_30 (fun h7 eh7 => ?_)
      have frh7 : Fr [29, 30] hi h7 := (Fr.put (Fr.rf) eh7 (by decide))
      have w30 := eh7
      refine z_aload_n (pc := 31) (x := 30) dX6_addByte_31 rfl 0 rfl ?_
      refine z_dup (pc := 32) dX6_addByte_32 rfl ?_
      refine z_getI (pc := 33) (pl := 29) (f := 1) (ci := 5) (C := RX6) (T := TX6) (N := 9) hu_X6 (by decide) rfl rfl (by decide) rfl (List.mem_cons_of_mem _ (iw3 _ (List.mem_of_getElem? (i := 14) rfl))) rfl (by decide) dX6_addByte_33 (fun v8 ev8 rv8 => ?_)
      rw [(by rw [eh7]; rfl : h7 29 1 = hi 29 1)] at ev8
      refine z_iconst (pc := 36) (v := 1) dX6_addByte_36 rfl ?_
      refine z_iadd (pc := 37) dX6_addByte_37 (fun v9 ev9 => ?_)
      refine z_putI (pc := 38) (pl := 29) (f := 1) (ci := 5) (C := RX6) (T := TX6) (N := 9) hu_X6 tyX6_ok nmX6 (by decide) rfl rfl (by decide) rfl (List.mem_cons_of_mem _ (iw3 _ (List.mem_of_getElem? (i := 14) rfl))) rfl rfl (ty := .int) (by decide +kernel) rfl rfl ⟨by omega, by omega⟩ dX6_addByte_38 (fun h10 eh10 => ?_)
      have frh10 : Fr [29, 30] hi h10 := (Fr.put frh7 eh10 (by decide))
      have w38 := eh10
      refine z_vret (pc := 41) rfl dX6_addByte_41 ?_
      exact hQ h10 ⟨frh10, by first | (exfalso; omega) | exact ⟨by rw [w38, hput_same, w30, hput_ne _ _ (by decide)]; congr 1; omega, by rw [w38, hput_ne _ _ (by decide), w30, hput_same, and255 w29]; congr 2⟩⟩

abbrev kX6_addFour : Kd := (cX6_addFour, .code yX6_addFour cX6_addFour 2 none :: wsL_law0, rmL 2, RX6, none, 2)
theorem ct_X6_addFour : Ct kX6_addFour yX6_addFour (fun a hi Q => ∃ x : Int, a = [AR 30, AI x] ∧ ((0 ≤ hi 29 1 ∧ hi 29 1 ≤ 596) ∧ inR x) ∧ ∀ h2 : HI, (Fr [29, 30] hi h2 ∧ (h2 29 = updI (hi 29) 1 (hi 29 1 + 4) ∧ F4 (hi 30) (h2 30) (hi 29 1) x)) → Q AU h2) := by
  refine Ct.of (ws' := _) (by decide +kernel) rfl rfl ?_
  intro a hi Q hT
  obtain ⟨x, rfl, hpre, hQ⟩ := hT
  refine ⟨Nat.le_of_ble_eq_true rfl, ?_⟩
  show Z kX6_addFour Q 0 [(0, AR 30), (1, AI x)] [] hi
  refine z_aload_n (pc := 0) (x := 30) dX6_addFour_0 rfl 0 rfl ?_
  refine z_iload_n (pc := 1) dX6_addFour_1 rfl 1 rfl ?_
  refine z_bipush (pc := 2) (v := 24) dX6_addFour_2 (by decide +kernel) ?_
  refine z_iushr (pc := 4) dX6_addFour_4 (fun v1 ev1 => ?_)
  have bv1 := toI_inR ev1
  have u4 := ushrI (k := 24) (by decide) (by decide) ev1
  refine z_callV (pc := 5) (kc := kX6_addByte) (n := 1) (pl := 29) (ci := 5) (C := RX6) (As := [AI v1]) (stk := []) ct_X6_addByte (gdV rfl rfl (iw17 _ (List.mem_of_getElem? (i := 12) rfl)) (iw17 _ (List.mem_of_getElem? (i := 13) rfl)) (iw17 _ (List.mem_of_getElem? (i := 14) rfl)) (iw2 _ (List.mem_of_getElem? (i := 4) rfl)) (iw17 _ (List.mem_of_getElem? (i := 15) rfl))) rfl ⟨rfl, rfl⟩ (by decide +kernel) ⟨by decide, by decide⟩ (by decide) rfl rfl dX6_addFour_5 rfl rfl (Nat.le_of_ble_eq_true rfl) ?_
  refine ⟨_, rfl, by omega, fun h2 eh2 => ?_⟩
  have frh2 : Fr [29, 30] hi h2 := (Fr.call (Fr.rf) eh2.1 (by decide))
  have a5 := eh2.2
  have l5 : h2 29 1 = hi 29 1 + 1 := by rw [a5.1, updI_same]; first | done | omega
  refine z_aload_n (pc := 8) (x := 30) dX6_addFour_8 rfl 0 rfl ?_
  refine z_iload_n (pc := 9) dX6_addFour_9 rfl 1 rfl ?_
  refine z_bipush (pc := 10) (v := 16) dX6_addFour_10 (by decide +kernel) ?_
  refine z_iushr (pc := 12) dX6_addFour_12 (fun v3 ev3 => ?_)
  have bv3 := toI_inR ev3
  have u12 := ushrI (k := 16) (by decide) (by decide) ev3
  refine z_callV (pc := 13) (kc := kX6_addByte) (n := 1) (pl := 29) (ci := 5) (C := RX6) (As := [AI v3]) (stk := []) ct_X6_addByte (gdV rfl rfl (iw17 _ (List.mem_of_getElem? (i := 12) rfl)) (iw17 _ (List.mem_of_getElem? (i := 13) rfl)) (iw17 _ (List.mem_of_getElem? (i := 14) rfl)) (iw2 _ (List.mem_of_getElem? (i := 4) rfl)) (iw17 _ (List.mem_of_getElem? (i := 15) rfl))) rfl ⟨rfl, rfl⟩ (by decide +kernel) ⟨by decide, by decide⟩ (by decide) rfl rfl dX6_addFour_13 rfl rfl (Nat.le_of_ble_eq_true rfl) ?_
  refine ⟨_, rfl, by rw [l5]; omega, fun h4 eh4 => ?_⟩
  have frh4 : Fr [29, 30] hi h4 := (Fr.call frh2 eh4.1 (by decide))
  have a13 := eh4.2
  have l13 : h4 29 1 = hi 29 1 + 2 := by rw [a13.1, updI_same]; first | done | omega
  refine z_aload_n (pc := 16) (x := 30) dX6_addFour_16 rfl 0 rfl ?_
  refine z_iload_n (pc := 17) dX6_addFour_17 rfl 1 rfl ?_
  refine z_bipush (pc := 18) (v := 8) dX6_addFour_18 (by decide +kernel) ?_
  refine z_iushr (pc := 20) dX6_addFour_20 (fun v5 ev5 => ?_)
  have bv5 := toI_inR ev5
  have u20 := ushrI (k := 8) (by decide) (by decide) ev5
  refine z_callV (pc := 21) (kc := kX6_addByte) (n := 1) (pl := 29) (ci := 5) (C := RX6) (As := [AI v5]) (stk := []) ct_X6_addByte (gdV rfl rfl (iw17 _ (List.mem_of_getElem? (i := 12) rfl)) (iw17 _ (List.mem_of_getElem? (i := 13) rfl)) (iw17 _ (List.mem_of_getElem? (i := 14) rfl)) (iw2 _ (List.mem_of_getElem? (i := 4) rfl)) (iw17 _ (List.mem_of_getElem? (i := 15) rfl))) rfl ⟨rfl, rfl⟩ (by decide +kernel) ⟨by decide, by decide⟩ (by decide) rfl rfl dX6_addFour_21 rfl rfl (Nat.le_of_ble_eq_true rfl) ?_
  refine ⟨_, rfl, by rw [l13]; omega, fun h6 eh6 => ?_⟩
  have frh6 : Fr [29, 30] hi h6 := (Fr.call frh4 eh6.1 (by decide))
  have a21 := eh6.2
  have l21 : h6 29 1 = hi 29 1 + 3 := by rw [a21.1, updI_same]; first | done | omega
  refine z_aload_n (pc := 24) (x := 30) dX6_addFour_24 rfl 0 rfl ?_
  refine z_iload_n (pc := 25) dX6_addFour_25 rfl 1 rfl ?_
  refine z_callV (pc := 26) (kc := kX6_addByte) (n := 1) (pl := 29) (ci := 5) (C := RX6) (As := [AI x]) (stk := []) ct_X6_addByte (gdV rfl rfl (iw17 _ (List.mem_of_getElem? (i := 12) rfl)) (iw17 _ (List.mem_of_getElem? (i := 13) rfl)) (iw17 _ (List.mem_of_getElem? (i := 14) rfl)) (iw2 _ (List.mem_of_getElem? (i := 4) rfl)) (iw17 _ (List.mem_of_getElem? (i := 15) rfl))) rfl ⟨rfl, rfl⟩ (by decide +kernel) ⟨by decide, by decide⟩ (by decide) rfl rfl dX6_addFour_26 rfl rfl (Nat.le_of_ble_eq_true rfl) ?_
  refine ⟨_, rfl, by rw [l21]; omega, fun h7 eh7 => ?_⟩
  have frh7 : Fr [29, 30] hi h7 := (Fr.call frh6 eh7.1 (by decide))
  have a26 := eh7.2
  have l26 : h7 29 1 = hi 29 1 + 4 := by rw [a26.1, updI_same]; first | done | omega
  refine z_vret (pc := 29) rfl dX6_addFour_29 ?_
  exact hQ h7 ⟨frh7, ⟨by rw [a26.1, a21.1, a13.1, a5.1, updI_updI, updI_updI, updI_updI]; congr 1; rw [updI_same, updI_same, updI_same]; omega, f4_mk a5.2 a13.2 a21.2 a26.2 hpre.1.1 l5 (by omega) (by omega) (by omega) (by omega) (by omega) rfl⟩⟩

abbrev kX7_feed : Kd := (cX7_feed, .code yX7_feed cX7_feed 6 (some .int) :: wsL_law0, rmL 3, RX7, (some .int), 6)
theorem ct_X7_feed : Ct kX7_feed yX7_feed (fun a hi Q => ∃ x1 : Int, ∃ x2 : Int, ∃ x3 : Int, ∃ x4 : Int, ∃ x5 : Int, a = [AR 1, AI x1, AI x2, AI x3, AI x4, AI x5] ∧ ((0 ≤ hi 29 1 ∧ hi 29 1 ≤ 600) ∧ inR x1 ∧ inR x2 ∧ inR x3 ∧ inR x4 ∧ inR x5) ∧ ∀ (v : Int) (h2 : HI), (Fr [29, 30] hi h2 ∧ ((600 < hi 29 1 + 20 ∧ v = -1 ∧ h2 = hi) ∨ (hi 29 1 + 20 ≤ 600 ∧ v = hi 29 1 + 20 ∧ h2 29 = updI (hi 29) 1 (hi 29 1 + 20) ∧ ∃ g1 g2 g3 g4 : Nat → Int, F4 (hi 30) g1 (hi 29 1) x1 ∧ F4 g1 g2 (hi 29 1 + 4) x2 ∧ F4 g2 g3 (hi 29 1 + 8) x3 ∧ F4 g3 g4 (hi 29 1 + 12) x4 ∧ F4 g4 (h2 30) (hi 29 1 + 16) x5))) → Q (AI v) h2) := by
  refine Ct.of (ws' := _) (by decide +kernel) rfl rfl ?_
  intro a hi Q hT
  obtain ⟨x1, x2, x3, x4, x5, rfl, hpre, hQ⟩ := hT
  refine ⟨Nat.le_of_ble_eq_true rfl, ?_⟩
  show Z kX7_feed Q 0 [(0, AR 1), (1, AI x1), (2, AI x2), (3, AI x3), (4, AI x4), (5, AI x5)] [] hi
  refine z_aload_n (pc := 0) (x := 1) dX7_feed_0 rfl 0 rfl ?_
  refine z_getR (pc := 1) (pl := 0) (f := 4) (ci := 6) (C := RX7) (T := TX7) (N := 13) hu_X7 (by decide) rfl rfl (by decide) rfl (List.mem_cons_of_mem _ (iw2 _ (List.mem_of_getElem? (i := 5) rfl))) rfl dX7_feed_1 ?_
  refine z_callV (pc := 4) (kc := kX6_length) (n := 0) (pl := 29) (ci := 5) (C := RX6) (As := []) (stk := []) ct_X6_length (gdV rfl rfl (iw17 _ (List.mem_of_getElem? (i := 4) rfl)) (iw17 _ (List.mem_of_getElem? (i := 5) rfl)) (iw17 _ (List.mem_of_getElem? (i := 6) rfl)) (iw2 _ (List.mem_of_getElem? (i := 4) rfl)) (iw17 _ (List.mem_of_getElem? (i := 7) rfl))) rfl ⟨rfl, rfl⟩ (by decide +kernel) ⟨by decide, by decide⟩ (by decide) rfl rfl dX7_feed_4 rfl rfl (Nat.le_of_ble_eq_true rfl) ?_
  refine ⟨rfl, trivial, fun v1 ev1 => ?_⟩
  refine z_bipush (pc := 7) (v := 20) dX7_feed_7 (by decide +kernel) ?_
  refine z_iadd (pc := 9) dX7_feed_9 (fun v2 ev2 => ?_)
  refine z_sipush (pc := 10) (v := 600) dX7_feed_10 (by decide +kernel) ?_
  refine z_icmp_le (pc := 13) (tgt := 18) dX7_feed_13 (by decide) ⟨by omega, by omega⟩ ⟨by decide, by decide⟩ (fun c3 => ?_) (fun c3 => ?_)
  · refine z_aload_n (pc := 18) (x := 1) dX7_feed_18 rfl 0 rfl ?_
    refine z_getR (pc := 19) (pl := 0) (f := 4) (ci := 6) (C := RX7) (T := TX7) (N := 13) hu_X7 (by decide) rfl rfl (by decide) rfl (List.mem_cons_of_mem _ (iw2 _ (List.mem_of_getElem? (i := 5) rfl))) rfl dX7_feed_19 ?_
    refine z_iload_n (pc := 22) dX7_feed_22 rfl 1 rfl ?_
    refine z_callV (pc := 23) (kc := kX6_addFour) (n := 1) (pl := 29) (ci := 5) (C := RX6) (As := [AI x1]) (stk := []) ct_X6_addFour (gdV rfl rfl (iw17 _ (List.mem_of_getElem? (i := 8) rfl)) (iw17 _ (List.mem_of_getElem? (i := 9) rfl)) (iw17 _ (List.mem_of_getElem? (i := 10) rfl)) (iw2 _ (List.mem_of_getElem? (i := 4) rfl)) (iw17 _ (List.mem_of_getElem? (i := 11) rfl))) rfl ⟨rfl, rfl⟩ (by decide +kernel) ⟨by decide, by decide⟩ (by decide) rfl rfl dX7_feed_23 rfl rfl (Nat.le_of_ble_eq_true rfl) ?_
    refine ⟨_, rfl, ⟨by omega, by omega⟩, fun h4 eh4 => ?_⟩
    have frh4 : Fr [29, 30] hi h4 := (Fr.call (Fr.rf) eh4.1 (by decide))
    have a23 := eh4.2
    have l23 : h4 29 1 = hi 29 1 + 4 := by rw [a23.1, updI_same]; first | done | omega
    refine z_aload_n (pc := 26) (x := 1) dX7_feed_26 rfl 0 rfl ?_
    refine z_getR (pc := 27) (pl := 0) (f := 4) (ci := 6) (C := RX7) (T := TX7) (N := 13) hu_X7 (by decide) rfl rfl (by decide) rfl (List.mem_cons_of_mem _ (iw2 _ (List.mem_of_getElem? (i := 5) rfl))) rfl dX7_feed_27 ?_
    refine z_iload_n (pc := 30) dX7_feed_30 rfl 2 rfl ?_
    refine z_callV (pc := 31) (kc := kX6_addFour) (n := 1) (pl := 29) (ci := 5) (C := RX6) (As := [AI x2]) (stk := []) ct_X6_addFour (gdV rfl rfl (iw17 _ (List.mem_of_getElem? (i := 8) rfl)) (iw17 _ (List.mem_of_getElem? (i := 9) rfl)) (iw17 _ (List.mem_of_getElem? (i := 10) rfl)) (iw2 _ (List.mem_of_getElem? (i := 4) rfl)) (iw17 _ (List.mem_of_getElem? (i := 11) rfl))) rfl ⟨rfl, rfl⟩ (by decide +kernel) ⟨by decide, by decide⟩ (by decide) rfl rfl dX7_feed_31 rfl rfl (Nat.le_of_ble_eq_true rfl) ?_
    refine ⟨_, rfl, ⟨by rw [l23]; omega, by omega⟩, fun h5 eh5 => ?_⟩
    have frh5 : Fr [29, 30] hi h5 := (Fr.call frh4 eh5.1 (by decide))
    have a31 := eh5.2
    have l31 : h5 29 1 = hi 29 1 + 8 := by rw [a31.1, updI_same]; first | done | omega
    refine z_aload_n (pc := 34) (x := 1) dX7_feed_34 rfl 0 rfl ?_
    refine z_getR (pc := 35) (pl := 0) (f := 4) (ci := 6) (C := RX7) (T := TX7) (N := 13) hu_X7 (by decide) rfl rfl (by decide) rfl (List.mem_cons_of_mem _ (iw2 _ (List.mem_of_getElem? (i := 5) rfl))) rfl dX7_feed_35 ?_
    refine z_iload_n (pc := 38) dX7_feed_38 rfl 3 rfl ?_
    refine z_callV (pc := 39) (kc := kX6_addFour) (n := 1) (pl := 29) (ci := 5) (C := RX6) (As := [AI x3]) (stk := []) ct_X6_addFour (gdV rfl rfl (iw17 _ (List.mem_of_getElem? (i := 8) rfl)) (iw17 _ (List.mem_of_getElem? (i := 9) rfl)) (iw17 _ (List.mem_of_getElem? (i := 10) rfl)) (iw2 _ (List.mem_of_getElem? (i := 4) rfl)) (iw17 _ (List.mem_of_getElem? (i := 11) rfl))) rfl ⟨rfl, rfl⟩ (by decide +kernel) ⟨by decide, by decide⟩ (by decide) rfl rfl dX7_feed_39 rfl rfl (Nat.le_of_ble_eq_true rfl) ?_
    refine ⟨_, rfl, ⟨by rw [l31]; omega, by omega⟩, fun h6 eh6 => ?_⟩
    have frh6 : Fr [29, 30] hi h6 := (Fr.call frh5 eh6.1 (by decide))
    have a39 := eh6.2
    have l39 : h6 29 1 = hi 29 1 + 12 := by rw [a39.1, updI_same]; first | done | omega
    refine z_aload_n (pc := 42) (x := 1) dX7_feed_42 rfl 0 rfl ?_
    refine z_getR (pc := 43) (pl := 0) (f := 4) (ci := 6) (C := RX7) (T := TX7) (N := 13) hu_X7 (by decide) rfl rfl (by decide) rfl (List.mem_cons_of_mem _ (iw2 _ (List.mem_of_getElem? (i := 5) rfl))) rfl dX7_feed_43 ?_
    refine z_iload (pc := 46) dX7_feed_46 4 rfl ?_
    refine z_callV (pc := 48) (kc := kX6_addFour) (n := 1) (pl := 29) (ci := 5) (C := RX6) (As := [AI x4]) (stk := []) ct_X6_addFour (gdV rfl rfl (iw17 _ (List.mem_of_getElem? (i := 8) rfl)) (iw17 _ (List.mem_of_getElem? (i := 9) rfl)) (iw17 _ (List.mem_of_getElem? (i := 10) rfl)) (iw2 _ (List.mem_of_getElem? (i := 4) rfl)) (iw17 _ (List.mem_of_getElem? (i := 11) rfl))) rfl ⟨rfl, rfl⟩ (by decide +kernel) ⟨by decide, by decide⟩ (by decide) rfl rfl dX7_feed_48 rfl rfl (Nat.le_of_ble_eq_true rfl) ?_
    refine ⟨_, rfl, ⟨by rw [l39]; omega, by omega⟩, fun h7 eh7 => ?_⟩
    have frh7 : Fr [29, 30] hi h7 := (Fr.call frh6 eh7.1 (by decide))
    have a48 := eh7.2
    have l48 : h7 29 1 = hi 29 1 + 16 := by rw [a48.1, updI_same]; first | done | omega
    refine z_aload_n (pc := 51) (x := 1) dX7_feed_51 rfl 0 rfl ?_
    refine z_getR (pc := 52) (pl := 0) (f := 4) (ci := 6) (C := RX7) (T := TX7) (N := 13) hu_X7 (by decide) rfl rfl (by decide) rfl (List.mem_cons_of_mem _ (iw2 _ (List.mem_of_getElem? (i := 5) rfl))) rfl dX7_feed_52 ?_
    refine z_iload (pc := 55) dX7_feed_55 5 rfl ?_
    refine z_callV (pc := 57) (kc := kX6_addFour) (n := 1) (pl := 29) (ci := 5) (C := RX6) (As := [AI x5]) (stk := []) ct_X6_addFour (gdV rfl rfl (iw17 _ (List.mem_of_getElem? (i := 8) rfl)) (iw17 _ (List.mem_of_getElem? (i := 9) rfl)) (iw17 _ (List.mem_of_getElem? (i := 10) rfl)) (iw2 _ (List.mem_of_getElem? (i := 4) rfl)) (iw17 _ (List.mem_of_getElem? (i := 11) rfl))) rfl ⟨rfl, rfl⟩ (by decide +kernel) ⟨by decide, by decide⟩ (by decide) rfl rfl dX7_feed_57 rfl rfl (Nat.le_of_ble_eq_true rfl) ?_
    refine ⟨_, rfl, ⟨by rw [l48]; omega, by omega⟩, fun h8 eh8 => ?_⟩
    have frh8 : Fr [29, 30] hi h8 := (Fr.call frh7 eh8.1 (by decide))
    have a57 := eh8.2
    have l57 : h8 29 1 = hi 29 1 + 20 := by rw [a57.1, updI_same]; first | done | omega
    refine z_aload_n (pc := 60) (x := 1) dX7_feed_60 rfl 0 rfl ?_
    refine z_getR (pc := 61) (pl := 0) (f := 4) (ci := 6) (C := RX7) (T := TX7) (N := 13) hu_X7 (by decide) rfl rfl (by decide) rfl (List.mem_cons_of_mem _ (iw2 _ (List.mem_of_getElem? (i := 5) rfl))) rfl dX7_feed_61 ?_
    refine z_callV (pc := 64) (kc := kX6_length) (n := 0) (pl := 29) (ci := 5) (C := RX6) (As := []) (stk := []) ct_X6_length (gdV rfl rfl (iw17 _ (List.mem_of_getElem? (i := 4) rfl)) (iw17 _ (List.mem_of_getElem? (i := 5) rfl)) (iw17 _ (List.mem_of_getElem? (i := 6) rfl)) (iw2 _ (List.mem_of_getElem? (i := 4) rfl)) (iw17 _ (List.mem_of_getElem? (i := 7) rfl))) rfl ⟨rfl, rfl⟩ (by decide +kernel) ⟨by decide, by decide⟩ (by decide) rfl rfl dX7_feed_64 rfl rfl (Nat.le_of_ble_eq_true rfl) ?_
    refine ⟨rfl, trivial, fun v9 ev9 => ?_⟩
    refine z_iret (pc := 67) rfl dX7_feed_67 ?_
    exact hQ v9 h8 ⟨frh8, by first | exact Or.inl ⟨by omega, rfl, rfl⟩ | exact Or.inr ⟨by omega, by omega, by rw [a57.1, a48.1, a39.1, a31.1, a23.1, updI_updI, updI_updI, updI_updI, updI_updI]; congr 1; rw [updI_same, updI_same, updI_same, updI_same]; omega, _, _, _, _, a23.2, l23 ▸ a31.2, l31 ▸ a39.2, l39 ▸ a48.2, l48 ▸ a57.2⟩⟩
  · refine z_iconst (pc := 16) (v := (-1)) dX7_feed_16 rfl ?_
    refine z_iret (pc := 17) rfl dX7_feed_17 ?_
    exact hQ (-1) hi ⟨(Fr.rf), by first | exact Or.inl ⟨by omega, rfl, rfl⟩ | exact Or.inr ⟨by omega, by omega, by rw [a57.1, a48.1, a39.1, a31.1, a23.1, updI_updI, updI_updI, updI_updI, updI_updI]; congr 1; rw [updI_same, updI_same, updI_same, updI_same]; omega, _, _, _, _, a23.2, l23 ▸ a31.2, l31 ▸ a39.2, l39 ▸ a48.2, l48 ▸ a57.2⟩⟩

abbrev kX8_four : Kd := (cX8_four, .code yX8_four cX8_four 3 none :: wsL_law0, rmL 1, RX8, none, 3)
theorem ct_X8_four : Ct kX8_four yX8_four (fun a hi Q => ∃ x : Int, a = [AR 40, AI x] ∧ ((0 ≤ hi 39 8 ∧ hi 39 8 ≤ 596) ∧ inR x) ∧ ∀ h2 : HI, (Fr [39, 45] hi h2 ∧ (h2 39 = updI (hi 39) 8 (hi 39 8 + 4) ∧ F4m (hi 45) (h2 45) (hi 39 8) x)) → Q AU h2) := by
  refine Ct.of (ws' := _) (by decide +kernel) rfl rfl ?_
  intro a hi Q hT
  obtain ⟨x, rfl, hpre, hQ⟩ := hT
  refine ⟨Nat.le_of_ble_eq_true rfl, ?_⟩
  show Z kX8_four Q 0 [(0, AR 40), (1, AI x)] [] hi
  refine z_bipush (pc := 0) (v := 24) dX8_four_0 (by decide +kernel) ?_
  refine z_istore_n (pc := 2) (lv' := [(2, AI 24), (0, AR 40), (1, AI x)]) dX8_four_2 rfl (by decide) rfl ?_
  refine z_iload_n (pc := 3) dX8_four_3 rfl 0 rfl ?_
  refine z_if_lt (pc := 4) (tgt := 36) dX8_four_4 (by decide) ⟨by decide, by decide⟩ (fun q => absurd q (by decide)) (fun _ => ?_)
  refine z_aload_n (pc := 7) (x := 40) dX8_four_7 rfl 1 rfl ?_
  refine z_getR (pc := 8) (pl := 39) (f := 7) (ci := 7) (C := RX8) (T := TX8) (N := 33) hu_X8 (by decide) rfl rfl (by decide) rfl (List.mem_cons_of_mem _ (iw5 _ (List.mem_of_getElem? (i := 11) rfl))) rfl dX8_four_8 ?_
  refine z_aload_n (pc := 11) (x := 40) dX8_four_11 rfl 1 rfl ?_
  refine z_getI (pc := 12) (pl := 39) (f := 8) (ci := 7) (C := RX8) (T := TX8) (N := 33) hu_X8 (by decide) rfl rfl (by decide) rfl (List.mem_cons_of_mem _ (iw17 _ (List.mem_of_getElem? (i := 20) rfl))) rfl (by decide) dX8_four_12 (fun v1 ev1 rv1 => ?_)
  refine z_iload_n (pc := 15) dX8_four_15 rfl 2 rfl ?_
  refine z_iload_n (pc := 16) dX8_four_16 rfl 0 rfl ?_
  refine z_ishr (pc := 17) dX8_four_17 (fun v2 ev2 => ?_)
  have bv2 := toI_inR ev2
  have sv2 := shrI (k := 24) (by decide) hpre.2 ev2
  refine z_i2b (pc := 18) dX8_four_18 (fun v3 ev3 => ?_)
  have bv3 := i2b_rng ev3
  have qv3 := i2bI (by omega) ev3
  refine z_bast (pc := 19) (pl := 45) (by decide) rfl (by decide) (by omega) (by omega) (by omega) dX8_four_19 (fun h4 eh4 => ?_)
  have frh4 : Fr [39, 45] hi h4 := (Fr.put (Fr.rf) eh4 (by decide))
  have ah4 := put_at eh4
  have dh4 := put_ne (q := 39) eh4 (by decide)
  refine z_aload_n (pc := 20) (x := 40) dX8_four_20 rfl 1 rfl ?_
  refine z_dup (pc := 21) dX8_four_21 rfl ?_
  refine z_getI (pc := 22) (pl := 39) (f := 8) (ci := 7) (C := RX8) (T := TX8) (N := 33) hu_X8 (by decide) rfl rfl (by decide) rfl (List.mem_cons_of_mem _ (iw17 _ (List.mem_of_getElem? (i := 20) rfl))) rfl (by decide) dX8_four_22 (fun v5 ev5 rv5 => ?_)
  rw [(by rw [eh4]; rfl : h4 39 8 = hi 39 8)] at ev5
  refine z_iconst (pc := 25) (v := 1) dX8_four_25 rfl ?_
  refine z_iadd (pc := 26) dX8_four_26 (fun v6 ev6 => ?_)
  refine z_putI (pc := 27) (pl := 39) (f := 8) (ci := 7) (C := RX8) (T := TX8) (N := 33) hu_X8 tyX8_ok nmX8 (by decide) rfl rfl (by decide) rfl (List.mem_cons_of_mem _ (iw17 _ (List.mem_of_getElem? (i := 20) rfl))) rfl rfl (ty := .int) (by decide +kernel) rfl rfl ⟨by omega, by omega⟩ dX8_four_27 (fun h7 eh7 => ?_)
  have frh7 : Fr [39, 45] hi h7 := (Fr.put frh4 eh7 (by decide))
  have ch7 := put_at eh7
  have bh7 := put_ne (q := 45) eh7 (by decide)
  refine z_iinc (pc := 30) (j := 0) (w := fun q => (2, AI q) :: [(0, AR 40), (1, AI x)]) dX8_four_30 rfl (by decide) (fun _ => rfl) (fun v8 ev8 => ?_)
  obtain rfl : v8 = 16 := by omega
  refine z_goto (pc := 33) (tgt := 3) dX8_four_33 (by decide) ?_
  refine z_iload_n (pc := 3) dX8_four_3 rfl 0 rfl ?_
  refine z_if_lt (pc := 4) (tgt := 36) dX8_four_4 (by decide) ⟨by decide, by decide⟩ (fun q => absurd q (by decide)) (fun _ => ?_)
  refine z_aload_n (pc := 7) (x := 40) dX8_four_7 rfl 1 rfl ?_
  refine z_getR (pc := 8) (pl := 39) (f := 7) (ci := 7) (C := RX8) (T := TX8) (N := 33) hu_X8 (by decide) rfl rfl (by decide) rfl (List.mem_cons_of_mem _ (iw5 _ (List.mem_of_getElem? (i := 11) rfl))) rfl dX8_four_8 ?_
  refine z_aload_n (pc := 11) (x := 40) dX8_four_11 rfl 1 rfl ?_
  refine z_getI (pc := 12) (pl := 39) (f := 8) (ci := 7) (C := RX8) (T := TX8) (N := 33) hu_X8 (by decide) rfl rfl (by decide) rfl (List.mem_cons_of_mem _ (iw17 _ (List.mem_of_getElem? (i := 20) rfl))) rfl (by decide) dX8_four_12 (fun v9 ev9 rv9 => ?_)
  rw [(by rw [eh7]; rfl : h7 39 8 = v6)] at ev9
  refine z_iload_n (pc := 15) dX8_four_15 rfl 2 rfl ?_
  refine z_iload_n (pc := 16) dX8_four_16 rfl 0 rfl ?_
  refine z_ishr (pc := 17) dX8_four_17 (fun v10 ev10 => ?_)
  have bv10 := toI_inR ev10
  have sv10 := shrI (k := 16) (by decide) hpre.2 ev10
  refine z_i2b (pc := 18) dX8_four_18 (fun v11 ev11 => ?_)
  have bv11 := i2b_rng ev11
  have qv11 := i2bI (by omega) ev11
  refine z_bast (pc := 19) (pl := 45) (by decide) rfl (by decide) (by omega) (by omega) (by omega) dX8_four_19 (fun h12 eh12 => ?_)
  have frh12 : Fr [39, 45] hi h12 := (Fr.put frh7 eh12 (by decide))
  have ah12 := put_at eh12
  have dh12 := put_ne (q := 39) eh12 (by decide)
  refine z_aload_n (pc := 20) (x := 40) dX8_four_20 rfl 1 rfl ?_
  refine z_dup (pc := 21) dX8_four_21 rfl ?_
  refine z_getI (pc := 22) (pl := 39) (f := 8) (ci := 7) (C := RX8) (T := TX8) (N := 33) hu_X8 (by decide) rfl rfl (by decide) rfl (List.mem_cons_of_mem _ (iw17 _ (List.mem_of_getElem? (i := 20) rfl))) rfl (by decide) dX8_four_22 (fun v13 ev13 rv13 => ?_)
  rw [(by rw [eh12]; rfl : h12 39 8 = h7 39 8), (by rw [eh7]; rfl : h7 39 8 = v6)] at ev13
  refine z_iconst (pc := 25) (v := 1) dX8_four_25 rfl ?_
  refine z_iadd (pc := 26) dX8_four_26 (fun v14 ev14 => ?_)
  refine z_putI (pc := 27) (pl := 39) (f := 8) (ci := 7) (C := RX8) (T := TX8) (N := 33) hu_X8 tyX8_ok nmX8 (by decide) rfl rfl (by decide) rfl (List.mem_cons_of_mem _ (iw17 _ (List.mem_of_getElem? (i := 20) rfl))) rfl rfl (ty := .int) (by decide +kernel) rfl rfl ⟨by omega, by omega⟩ dX8_four_27 (fun h15 eh15 => ?_)
  have frh15 : Fr [39, 45] hi h15 := (Fr.put frh12 eh15 (by decide))
  have ch15 := put_at eh15
  have bh15 := put_ne (q := 45) eh15 (by decide)
  refine z_iinc (pc := 30) (j := 0) (w := fun q => (2, AI q) :: [(0, AR 40), (1, AI x)]) dX8_four_30 rfl (by decide) (fun _ => rfl) (fun v16 ev16 => ?_)
  obtain rfl : v16 = 8 := by omega
  refine z_goto (pc := 33) (tgt := 3) dX8_four_33 (by decide) ?_
  refine z_iload_n (pc := 3) dX8_four_3 rfl 0 rfl ?_
  refine z_if_lt (pc := 4) (tgt := 36) dX8_four_4 (by decide) ⟨by decide, by decide⟩ (fun q => absurd q (by decide)) (fun _ => ?_)
  refine z_aload_n (pc := 7) (x := 40) dX8_four_7 rfl 1 rfl ?_
  refine z_getR (pc := 8) (pl := 39) (f := 7) (ci := 7) (C := RX8) (T := TX8) (N := 33) hu_X8 (by decide) rfl rfl (by decide) rfl (List.mem_cons_of_mem _ (iw5 _ (List.mem_of_getElem? (i := 11) rfl))) rfl dX8_four_8 ?_
  refine z_aload_n (pc := 11) (x := 40) dX8_four_11 rfl 1 rfl ?_
  refine z_getI (pc := 12) (pl := 39) (f := 8) (ci := 7) (C := RX8) (T := TX8) (N := 33) hu_X8 (by decide) rfl rfl (by decide) rfl (List.mem_cons_of_mem _ (iw17 _ (List.mem_of_getElem? (i := 20) rfl))) rfl (by decide) dX8_four_12 (fun v17 ev17 rv17 => ?_)
  rw [(by rw [eh15]; rfl : h15 39 8 = v14)] at ev17
  refine z_iload_n (pc := 15) dX8_four_15 rfl 2 rfl ?_
  refine z_iload_n (pc := 16) dX8_four_16 rfl 0 rfl ?_
  refine z_ishr (pc := 17) dX8_four_17 (fun v18 ev18 => ?_)
  have bv18 := toI_inR ev18
  have sv18 := shrI (k := 8) (by decide) hpre.2 ev18
  refine z_i2b (pc := 18) dX8_four_18 (fun v19 ev19 => ?_)
  have bv19 := i2b_rng ev19
  have qv19 := i2bI (by omega) ev19
  refine z_bast (pc := 19) (pl := 45) (by decide) rfl (by decide) (by omega) (by omega) (by omega) dX8_four_19 (fun h20 eh20 => ?_)
  have frh20 : Fr [39, 45] hi h20 := (Fr.put frh15 eh20 (by decide))
  have ah20 := put_at eh20
  have dh20 := put_ne (q := 39) eh20 (by decide)
  refine z_aload_n (pc := 20) (x := 40) dX8_four_20 rfl 1 rfl ?_
  refine z_dup (pc := 21) dX8_four_21 rfl ?_
  refine z_getI (pc := 22) (pl := 39) (f := 8) (ci := 7) (C := RX8) (T := TX8) (N := 33) hu_X8 (by decide) rfl rfl (by decide) rfl (List.mem_cons_of_mem _ (iw17 _ (List.mem_of_getElem? (i := 20) rfl))) rfl (by decide) dX8_four_22 (fun v21 ev21 rv21 => ?_)
  rw [(by rw [eh20]; rfl : h20 39 8 = h15 39 8), (by rw [eh15]; rfl : h15 39 8 = v14)] at ev21
  refine z_iconst (pc := 25) (v := 1) dX8_four_25 rfl ?_
  refine z_iadd (pc := 26) dX8_four_26 (fun v22 ev22 => ?_)
  refine z_putI (pc := 27) (pl := 39) (f := 8) (ci := 7) (C := RX8) (T := TX8) (N := 33) hu_X8 tyX8_ok nmX8 (by decide) rfl rfl (by decide) rfl (List.mem_cons_of_mem _ (iw17 _ (List.mem_of_getElem? (i := 20) rfl))) rfl rfl (ty := .int) (by decide +kernel) rfl rfl ⟨by omega, by omega⟩ dX8_four_27 (fun h23 eh23 => ?_)
  have frh23 : Fr [39, 45] hi h23 := (Fr.put frh20 eh23 (by decide))
  have ch23 := put_at eh23
  have bh23 := put_ne (q := 45) eh23 (by decide)
  refine z_iinc (pc := 30) (j := 0) (w := fun q => (2, AI q) :: [(0, AR 40), (1, AI x)]) dX8_four_30 rfl (by decide) (fun _ => rfl) (fun v24 ev24 => ?_)
  obtain rfl : v24 = 0 := by omega
  refine z_goto (pc := 33) (tgt := 3) dX8_four_33 (by decide) ?_
  refine z_iload_n (pc := 3) dX8_four_3 rfl 0 rfl ?_
  refine z_if_lt (pc := 4) (tgt := 36) dX8_four_4 (by decide) ⟨by decide, by decide⟩ (fun q => absurd q (by decide)) (fun _ => ?_)
  refine z_aload_n (pc := 7) (x := 40) dX8_four_7 rfl 1 rfl ?_
  refine z_getR (pc := 8) (pl := 39) (f := 7) (ci := 7) (C := RX8) (T := TX8) (N := 33) hu_X8 (by decide) rfl rfl (by decide) rfl (List.mem_cons_of_mem _ (iw5 _ (List.mem_of_getElem? (i := 11) rfl))) rfl dX8_four_8 ?_
  refine z_aload_n (pc := 11) (x := 40) dX8_four_11 rfl 1 rfl ?_
  refine z_getI (pc := 12) (pl := 39) (f := 8) (ci := 7) (C := RX8) (T := TX8) (N := 33) hu_X8 (by decide) rfl rfl (by decide) rfl (List.mem_cons_of_mem _ (iw17 _ (List.mem_of_getElem? (i := 20) rfl))) rfl (by decide) dX8_four_12 (fun v25 ev25 rv25 => ?_)
  rw [(by rw [eh23]; rfl : h23 39 8 = v22)] at ev25
  refine z_iload_n (pc := 15) dX8_four_15 rfl 2 rfl ?_
  refine z_iload_n (pc := 16) dX8_four_16 rfl 0 rfl ?_
  refine z_ishr (pc := 17) dX8_four_17 (fun v26 ev26 => ?_)
  have bv26 := toI_inR ev26
  have sv26 := shrI (k := 0) (by decide) hpre.2 ev26
  refine z_i2b (pc := 18) dX8_four_18 (fun v27 ev27 => ?_)
  have bv27 := i2b_rng ev27
  have qv27 := i2bI (by omega) ev27
  refine z_bast (pc := 19) (pl := 45) (by decide) rfl (by decide) (by omega) (by omega) (by omega) dX8_four_19 (fun h28 eh28 => ?_)
  have frh28 : Fr [39, 45] hi h28 := (Fr.put frh23 eh28 (by decide))
  have ah28 := put_at eh28
  have dh28 := put_ne (q := 39) eh28 (by decide)
  refine z_aload_n (pc := 20) (x := 40) dX8_four_20 rfl 1 rfl ?_
  refine z_dup (pc := 21) dX8_four_21 rfl ?_
  refine z_getI (pc := 22) (pl := 39) (f := 8) (ci := 7) (C := RX8) (T := TX8) (N := 33) hu_X8 (by decide) rfl rfl (by decide) rfl (List.mem_cons_of_mem _ (iw17 _ (List.mem_of_getElem? (i := 20) rfl))) rfl (by decide) dX8_four_22 (fun v29 ev29 rv29 => ?_)
  rw [(by rw [eh28]; rfl : h28 39 8 = h23 39 8), (by rw [eh23]; rfl : h23 39 8 = v22)] at ev29
  refine z_iconst (pc := 25) (v := 1) dX8_four_25 rfl ?_
  refine z_iadd (pc := 26) dX8_four_26 (fun v30 ev30 => ?_)
  refine z_putI (pc := 27) (pl := 39) (f := 8) (ci := 7) (C := RX8) (T := TX8) (N := 33) hu_X8 tyX8_ok nmX8 (by decide) rfl rfl (by decide) rfl (List.mem_cons_of_mem _ (iw17 _ (List.mem_of_getElem? (i := 20) rfl))) rfl rfl (ty := .int) (by decide +kernel) rfl rfl ⟨by omega, by omega⟩ dX8_four_27 (fun h31 eh31 => ?_)
  have frh31 : Fr [39, 45] hi h31 := (Fr.put frh28 eh31 (by decide))
  have ch31 := put_at eh31
  have bh31 := put_ne (q := 45) eh31 (by decide)
  refine z_iinc (pc := 30) (j := 0) (w := fun q => (2, AI q) :: [(0, AR 40), (1, AI x)]) dX8_four_30 rfl (by decide) (fun _ => rfl) (fun v32 ev32 => ?_)
  obtain rfl : v32 = -8 := by omega
  refine z_goto (pc := 33) (tgt := 3) dX8_four_33 (by decide) ?_
  refine z_iload_n (pc := 3) dX8_four_3 rfl 0 rfl ?_
  refine z_if_lt (pc := 4) (tgt := 36) dX8_four_4 (by decide) ⟨by decide, by decide⟩ (fun _ => ?_) (fun q => absurd q (by decide))
  refine z_vret (pc := 36) rfl dX8_four_36 ?_
  exact hQ h31 ⟨frh31, ⟨by rw [ch31, dh28, ch23, dh20, ch15, dh12, ch7, dh4, updI_updI, updI_updI, updI_updI]; congr 1; omega, by rw [bh31]; exact f4m_mk (show h4 45 = updI (hi 45) (hi 39 8).toNat _ by rw [ah4]; congr 1; omega) (bh7 ▸ ah12) (bh15 ▸ ah20) (bh23 ▸ ah28) hpre.1.1 (by omega) (by omega) (by omega) (by omega) (by omega) (by omega) (by omega)⟩⟩

abbrev kX8_feed : Kd := (cX8_feed, .code yX8_feed cX8_feed 6 (some .int) :: wsL_law0, rmL 2, RX8, (some .int), 6)
theorem ct_X8_feed : Ct kX8_feed yX8_feed (fun a hi Q => ∃ x1 : Int, ∃ x2 : Int, ∃ x3 : Int, ∃ x4 : Int, ∃ x5 : Int, a = [AR 40, AI x1, AI x2, AI x3, AI x4, AI x5] ∧ ((0 ≤ hi 39 8 ∧ hi 39 8 ≤ 600) ∧ inR x1 ∧ inR x2 ∧ inR x3 ∧ inR x4 ∧ inR x5) ∧ ∀ (v : Int) (h2 : HI), (Fr [39, 45] hi h2 ∧ ((600 < hi 39 8 + 20 ∧ v = -1 ∧ h2 = Z0 hi) ∨ (hi 39 8 + 20 ≤ 600 ∧ v = hi 39 8 + 20 ∧ h2 39 = updI ((Z0 hi) 39) 8 (hi 39 8 + 20) ∧ ∃ g1 g2 g3 g4 : Nat → Int, F4m (hi 45) g1 (hi 39 8) x1 ∧ F4m g1 g2 (hi 39 8 + 4) x2 ∧ F4m g2 g3 (hi 39 8 + 8) x3 ∧ F4m g3 g4 (hi 39 8 + 12) x4 ∧ F4m g4 (h2 45) (hi 39 8 + 16) x5))) → Q (AI v) h2) := by
  refine Ct.of (ws' := _) (by decide +kernel) rfl rfl ?_
  intro a hi Q hT
  obtain ⟨x1, x2, x3, x4, x5, rfl, hpre, hQ⟩ := hT
  refine ⟨Nat.le_of_ble_eq_true rfl, ?_⟩
  show Z kX8_feed Q 0 [(0, AR 40), (1, AI x1), (2, AI x2), (3, AI x3), (4, AI x4), (5, AI x5)] [] hi
  refine z_aload_n (pc := 0) (x := 40) dX8_feed_0 rfl 0 rfl ?_
  refine z_iconst (pc := 1) (v := 0) dX8_feed_1 rfl ?_
  refine z_putI (pc := 2) (pl := 39) (f := 0) (ci := 7) (C := RX8) (T := TX8) (N := 33) hu_X8 tyX8_ok nmX8 (by decide) rfl rfl (by decide) rfl (List.mem_cons_of_mem _ (iw8 _ (List.mem_of_getElem? (i := 22) rfl))) rfl rfl (ty := .int) (by decide +kernel) rfl rfl ⟨by decide, by decide⟩ dX8_feed_2 (fun h1 eh1 => ?_)
  have frh1 : Fr [39, 45] hi h1 := (Fr.put (Fr.rf) eh1 (by decide))
  have z1 : h1 = Z0 hi := eh1
  have l0 : h1 39 8 = hi 39 8 := by rw [z1]; rfl
  have e45 : h1 45 = hi 45 := by rw [z1]; rfl
  refine z_aload_n (pc := 5) (x := 40) dX8_feed_5 rfl 0 rfl ?_
  refine z_getI (pc := 6) (pl := 39) (f := 8) (ci := 7) (C := RX8) (T := TX8) (N := 33) hu_X8 (by decide) rfl rfl (by decide) rfl (List.mem_cons_of_mem _ (iw17 _ (List.mem_of_getElem? (i := 20) rfl))) rfl (by decide) dX8_feed_6 (fun v2 ev2 rv2 => ?_)
  rw [(by rw [eh1]; rfl : h1 39 8 = hi 39 8)] at ev2
  refine z_bipush (pc := 9) (v := 20) dX8_feed_9 (by decide +kernel) ?_
  refine z_iadd (pc := 11) dX8_feed_11 (fun v3 ev3 => ?_)
  refine z_sipush (pc := 12) (v := 600) dX8_feed_12 (by decide +kernel) ?_
  refine z_icmp_le (pc := 15) (tgt := 20) dX8_feed_15 (by decide) ⟨by omega, by omega⟩ ⟨by decide, by decide⟩ (fun c4 => ?_) (fun c4 => ?_)
  · refine z_aload_n (pc := 20) (x := 40) dX8_feed_20 rfl 0 rfl ?_
    refine z_iload_n (pc := 21) dX8_feed_21 rfl 1 rfl ?_
    refine z_callV (pc := 22) (kc := kX8_four) (n := 1) (pl := 39) (ci := 7) (C := RX8) (As := [AI x1]) (stk := []) ct_X8_four (gdV rfl rfl (iw17 _ (List.mem_of_getElem? (i := 21) rfl)) (iw17 _ (List.mem_of_getElem? (i := 22) rfl)) (iw17 _ (List.mem_of_getElem? (i := 23) rfl)) (iw1 _ (List.mem_of_getElem? (i := 5) rfl)) (iw18 _ (List.mem_of_getElem? (i := 0) rfl))) rfl ⟨rfl, rfl⟩ (by decide +kernel) ⟨by decide, by decide⟩ (by decide) rfl rfl dX8_feed_22 rfl rfl (Nat.le_of_ble_eq_true rfl) ?_
    refine ⟨_, rfl, ⟨by omega, by omega⟩, fun h5 eh5 => ?_⟩
    have frh5 : Fr [39, 45] hi h5 := (Fr.call frh1 eh5.1 (by decide))
    have a23 := eh5.2
    have l23 : h5 39 8 = hi 39 8 + 4 := by rw [a23.1, updI_same]; first | done | omega
    refine z_aload_n (pc := 25) (x := 40) dX8_feed_25 rfl 0 rfl ?_
    refine z_iload_n (pc := 26) dX8_feed_26 rfl 2 rfl ?_
    refine z_callV (pc := 27) (kc := kX8_four) (n := 1) (pl := 39) (ci := 7) (C := RX8) (As := [AI x2]) (stk := []) ct_X8_four (gdV rfl rfl (iw17 _ (List.mem_of_getElem? (i := 21) rfl)) (iw17 _ (List.mem_of_getElem? (i := 22) rfl)) (iw17 _ (List.mem_of_getElem? (i := 23) rfl)) (iw1 _ (List.mem_of_getElem? (i := 5) rfl)) (iw18 _ (List.mem_of_getElem? (i := 0) rfl))) rfl ⟨rfl, rfl⟩ (by decide +kernel) ⟨by decide, by decide⟩ (by decide) rfl rfl dX8_feed_27 rfl rfl (Nat.le_of_ble_eq_true rfl) ?_
    refine ⟨_, rfl, ⟨by rw [l23]; omega, by omega⟩, fun h6 eh6 => ?_⟩
    have frh6 : Fr [39, 45] hi h6 := (Fr.call frh5 eh6.1 (by decide))
    have a31 := eh6.2
    have l31 : h6 39 8 = hi 39 8 + 8 := by rw [a31.1, updI_same]; first | done | omega
    refine z_aload_n (pc := 30) (x := 40) dX8_feed_30 rfl 0 rfl ?_
    refine z_iload_n (pc := 31) dX8_feed_31 rfl 3 rfl ?_
    refine z_callV (pc := 32) (kc := kX8_four) (n := 1) (pl := 39) (ci := 7) (C := RX8) (As := [AI x3]) (stk := []) ct_X8_four (gdV rfl rfl (iw17 _ (List.mem_of_getElem? (i := 21) rfl)) (iw17 _ (List.mem_of_getElem? (i := 22) rfl)) (iw17 _ (List.mem_of_getElem? (i := 23) rfl)) (iw1 _ (List.mem_of_getElem? (i := 5) rfl)) (iw18 _ (List.mem_of_getElem? (i := 0) rfl))) rfl ⟨rfl, rfl⟩ (by decide +kernel) ⟨by decide, by decide⟩ (by decide) rfl rfl dX8_feed_32 rfl rfl (Nat.le_of_ble_eq_true rfl) ?_
    refine ⟨_, rfl, ⟨by rw [l31]; omega, by omega⟩, fun h7 eh7 => ?_⟩
    have frh7 : Fr [39, 45] hi h7 := (Fr.call frh6 eh7.1 (by decide))
    have a39 := eh7.2
    have l39 : h7 39 8 = hi 39 8 + 12 := by rw [a39.1, updI_same]; first | done | omega
    refine z_aload_n (pc := 35) (x := 40) dX8_feed_35 rfl 0 rfl ?_
    refine z_iload (pc := 36) dX8_feed_36 4 rfl ?_
    refine z_callV (pc := 38) (kc := kX8_four) (n := 1) (pl := 39) (ci := 7) (C := RX8) (As := [AI x4]) (stk := []) ct_X8_four (gdV rfl rfl (iw17 _ (List.mem_of_getElem? (i := 21) rfl)) (iw17 _ (List.mem_of_getElem? (i := 22) rfl)) (iw17 _ (List.mem_of_getElem? (i := 23) rfl)) (iw1 _ (List.mem_of_getElem? (i := 5) rfl)) (iw18 _ (List.mem_of_getElem? (i := 0) rfl))) rfl ⟨rfl, rfl⟩ (by decide +kernel) ⟨by decide, by decide⟩ (by decide) rfl rfl dX8_feed_38 rfl rfl (Nat.le_of_ble_eq_true rfl) ?_
    refine ⟨_, rfl, ⟨by rw [l39]; omega, by omega⟩, fun h8 eh8 => ?_⟩
    have frh8 : Fr [39, 45] hi h8 := (Fr.call frh7 eh8.1 (by decide))
    have a48 := eh8.2
    have l48 : h8 39 8 = hi 39 8 + 16 := by rw [a48.1, updI_same]; first | done | omega
    refine z_aload_n (pc := 41) (x := 40) dX8_feed_41 rfl 0 rfl ?_
    refine z_iload (pc := 42) dX8_feed_42 5 rfl ?_
    refine z_callV (pc := 44) (kc := kX8_four) (n := 1) (pl := 39) (ci := 7) (C := RX8) (As := [AI x5]) (stk := []) ct_X8_four (gdV rfl rfl (iw17 _ (List.mem_of_getElem? (i := 21) rfl)) (iw17 _ (List.mem_of_getElem? (i := 22) rfl)) (iw17 _ (List.mem_of_getElem? (i := 23) rfl)) (iw1 _ (List.mem_of_getElem? (i := 5) rfl)) (iw18 _ (List.mem_of_getElem? (i := 0) rfl))) rfl ⟨rfl, rfl⟩ (by decide +kernel) ⟨by decide, by decide⟩ (by decide) rfl rfl dX8_feed_44 rfl rfl (Nat.le_of_ble_eq_true rfl) ?_
    refine ⟨_, rfl, ⟨by rw [l48]; omega, by omega⟩, fun h9 eh9 => ?_⟩
    have frh9 : Fr [39, 45] hi h9 := (Fr.call frh8 eh9.1 (by decide))
    have a57 := eh9.2
    have l57 : h9 39 8 = hi 39 8 + 20 := by rw [a57.1, updI_same]; first | done | omega
    refine z_aload_n (pc := 47) (x := 40) dX8_feed_47 rfl 0 rfl ?_
    refine z_getI (pc := 48) (pl := 39) (f := 8) (ci := 7) (C := RX8) (T := TX8) (N := 33) hu_X8 (by decide) rfl rfl (by decide) rfl (List.mem_cons_of_mem _ (iw17 _ (List.mem_of_getElem? (i := 20) rfl))) rfl (by decide) dX8_feed_48 (fun v10 ev10 rv10 => ?_)
    refine z_iret (pc := 51) rfl dX8_feed_51 ?_
    exact hQ v10 h9 ⟨frh9, by first | exact Or.inl ⟨by omega, rfl, z1⟩ | exact Or.inr ⟨by omega, by omega, by rw [a57.1, a48.1, a39.1, a31.1, a23.1, updI_updI, updI_updI, updI_updI, updI_updI, ← z1]; congr 1; rw [updI_same, updI_same, updI_same, updI_same]; omega, _, _, _, _, (e45 ▸ l0 ▸ a23.2), l23 ▸ a31.2, l31 ▸ a39.2, l39 ▸ a48.2, l48 ▸ a57.2⟩⟩
  · refine z_iconst (pc := 18) (v := (-1)) dX8_feed_18 rfl ?_
    refine z_iret (pc := 19) rfl dX8_feed_19 ?_
    exact hQ (-1) h1 ⟨frh1, by first | exact Or.inl ⟨by omega, rfl, z1⟩ | exact Or.inr ⟨by omega, by omega, by rw [a57.1, a48.1, a39.1, a31.1, a23.1, updI_updI, updI_updI, updI_updI, updI_updI, ← z1]; congr 1; rw [updI_same, updI_same, updI_same, updI_same]; omega, _, _, _, _, (e45 ▸ l0 ▸ a23.2), l23 ▸ a31.2, l31 ▸ a39.2, l39 ▸ a48.2, l48 ▸ a57.2⟩⟩

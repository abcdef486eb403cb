theorem hx_X7 {c : Cond} : ∀ w ∈ u_ws RX7 TX7 13, w ∈ c :: wsL_law := fun w h => List.mem_cons_of_mem _ (List.mem_append_left _ (iu_X7 w h))
theorem good_x {ck : Cond} {ws : List Cond} (h : GoodIn (ck :: wsL_law0) ws) : GoodIn (ck :: wsL_law) ws := fun w hw => ⟨by
  rcases List.mem_cons.mp (h w hw).1 with q | q
  · exact List.mem_cons.mpr (Or.inl q)
  · exact List.mem_cons_of_mem _ (List.mem_append_left _ q), (h w hw).2⟩
def k0X7_life : Kd := (cX7_life, .code yX7_life cX7_life 3 (some .int) :: wsL_law0, { frames := 30, cells := 1, slots := 6, locals := 1440 }, RX7, some .int, 3)
abbrev kX7_life : Kd := (cX7_life, .code yX7_life cX7_life 3 (some .int) :: wsL_law, { frames := 30, cells := 1, slots := 6, locals := 1440 }, RX7, some .int, 3)

theorem ct_X7_life : CtX kX7_life yX7_life (fun a hi Q px => ∃ k : Int, ∃ y : Int, a = [AR 1, AI k, AI y] ∧ (RI (hi 2) (hi 2 1) ∧ inR k ∧ inR y) ∧ (∀ v : Int, (((0 ≤ k ∧ k < hi 2 1) ∧ 0 ≤ y ∧ y ≤ 4) ∧ ((y = 4 ∧ v = pcs (bO (hi 2) k) (dO (hi 2) k)) ∨ (y < 4 ∧ v = eO (hi 2) k y))) → Q (AI v) hi) ∧ (((k < 0 ∨ hi 2 1 ≤ k) ∨ y < 0 ∨ 4 < y) → px hi)) := by
  refine CtX.of (ws' := _) (by decide +kernel) rfl rfl ?_
  intro a hi Q px hT
  obtain ⟨k, y, rfl, hpre, hQ, hX⟩ := hT
  refine ⟨Nat.le_of_ble_eq_true rfl, ?_⟩
  have hnn := hpre.1.1
  have thr : ((k < 0 ∨ hi 2 1 ≤ k) ∨ y < 0 ∨ 4 < y) → ∀ (pc : Nat) (lv : List (Nat × AV)), pc = 15 ∨ pc = 116 → ZX kX7_life Q px pc lv [] hi := fun h pc lv hp => by
    have hat : ∀ w ∈ (vx_at0 RX7 337 "java/util/NoSuchElementException" nmsNS).filter goodWord, w ∈ kX7_life.2.1 := fun w hw => List.mem_cons_of_mem _ (List.mem_append_right _ hw)
    have h1 : Cond.classLink RX7 335 "java/util/NoSuchElementException" ∈ kX7_life.2.1 := List.mem_cons_of_mem _ (List.mem_append_left _ (iw43 _ (List.mem_of_getElem? (i := 22) rfl)))
    have h2 : Cond.initialized "java/util/NoSuchElementException" ∈ kX7_life.2.1 := List.mem_cons_of_mem _ (List.mem_append_left _ (iw43 _ (List.mem_of_getElem? (i := 23) rfl)))
    rcases hp with e | e <;> subst e
    · exact zx_throw (hX h) rfl h1 h2 hat dX7_life_15 dX7_life_18 dX7_life_19 dX7_life_22 (by decide) (by decide) (by decide) (by decide)
    · exact zx_throw (hX h) rfl h1 h2 hat dX7_life_116 dX7_life_119 dX7_life_120 dX7_life_123 (by decide) (by decide) (by decide) (by decide)
  show ZX kX7_life Q px 0 [(0, AR 1), (1, AI k), (2, AI y)] [] hi
  refine zx_iload_n (pc := 0) dX7_life_0 rfl 1 rfl ?_
  refine zx_if_lt (pc := 1) (tgt := 15) dX7_life_1 (by decide) ⟨by omega, by omega⟩ (fun c1 => ?_) (fun c1 => ?_)
  · exact thr (by omega) _ _ (Or.inl rfl)
  · refine zx_iload_n (pc := 4) dX7_life_4 rfl 1 rfl ?_
    refine zx_aload_n (pc := 5) (x := 1) dX7_life_5 rfl 0 rfl ?_
    refine zx_getR (pc := 6) (pl := 0) (f := 0) (ci := 6) (C := RX7) (T := TX7) (N := 13) hx_X7 (by decide) rfl rfl (by decide) rfl (List.mem_cons_of_mem _ (List.mem_append_left _ (iw1 _ (List.mem_of_getElem? (i := 16) rfl)))) rfl dX7_life_6 ?_
    refine zx_callV (pc := 9) (kc := kX1_size) (n := 0) (pl := 1) (ci := 1) (C := RX1) (As := []) (stk := [AI k]) ct_X1_size (good_x (gdV (k := k0X7_life) rfl rfl (iw7 _ (List.mem_of_getElem? (i := 21) rfl)) (iw7 _ (List.mem_of_getElem? (i := 2) rfl)) (iw7 _ (List.mem_of_getElem? (i := 3) rfl)) (iw1 _ (List.mem_of_getElem? (i := 15) rfl)) (iw7 _ (List.mem_of_getElem? (i := 4) rfl)))) rfl ⟨rfl, rfl⟩ (by decide +kernel) ⟨by decide, by decide⟩ (by decide) rfl rfl dX7_life_9 rfl rfl (Nat.le_of_ble_eq_true rfl) ?_
    refine ⟨rfl, trivial, fun v2 ev2 => ?_⟩
    refine zx_icmp_lt (pc := 12) (tgt := 23) dX7_life_12 (by decide) ⟨by omega, by omega⟩ ⟨by omega, by omega⟩ (fun c3 => ?_) (fun c3 => ?_)
    · refine zx_iload_n (pc := 23) dX7_life_23 rfl 2 rfl ?_
      refine zx_tsw (pc := 24)  (x := y) (dtgt := 116) (tg := [60, 69, 78, 87, 96]) dX7_life_24 ⟨by omega, by omega⟩ rfl (by decide) ?_ ?_
      · intro c4
        exact thr (by omega) _ _ (Or.inr rfl)
      · refine ⟨fun c4 => ?_, fun c4 => ?_, fun c4 => ?_, fun c4 => ?_, fun c4 => ?_, trivial⟩
        · refine zx_of ?_
          have hk : 0 ≤ k ∧ k < hi 2 1 := by omega
          have rk := toRng hpre.1 hk
          refine z_aload_n (pc := 60) (x := 1) dX7_life_60 rfl 0 rfl ?_
          refine z_getR (pc := 61) (pl := 0) (f := 0) (ci := 6) (C := RX7) (T := TX7) (N := 13) hx_X7 (by decide) rfl rfl (by decide) rfl (List.mem_cons_of_mem _ (List.mem_append_left _ (iw1 _ (List.mem_of_getElem? (i := 16) rfl)))) rfl dX7_life_61 ?_
          refine z_iload_n (pc := 64) dX7_life_64 rfl 1 rfl ?_
          refine z_callV (pc := 65) (kc := kX1_numberOf) (n := 1) (pl := 1) (ci := 1) (C := RX1) (As := [AI k]) (stk := []) ct_X1_numberOf (good_x (gdV (k := k0X7_life) rfl rfl (iw12 _ (List.mem_of_getElem? (i := 7) rfl)) (iw7 _ (List.mem_of_getElem? (i := 6) rfl)) (iw7 _ (List.mem_of_getElem? (i := 7) rfl)) (iw1 _ (List.mem_of_getElem? (i := 15) rfl)) (iw7 _ (List.mem_of_getElem? (i := 8) rfl)))) rfl ⟨rfl, rfl⟩ (by decide +kernel) ⟨by decide, by decide⟩ (by decide) rfl rfl dX7_life_65 rfl rfl (Nat.le_of_ble_eq_true rfl) ?_
          refine ⟨_, rfl, by omega, fun v5 ev5 => ?_⟩
          refine z_iret (pc := 68) rfl dX7_life_68 ?_
          exact hQ v5 (⟨by omega, Or.inr ⟨by omega, by rw [show y = 0 by omega]; show _ = nO (hi 2) k; omega⟩⟩)
        · refine zx_of ?_
          have hk : 0 ≤ k ∧ k < hi 2 1 := by omega
          have rk := toRng hpre.1 hk
          refine z_aload_n (pc := 69) (x := 1) dX7_life_69 rfl 0 rfl ?_
          refine z_getR (pc := 70) (pl := 0) (f := 0) (ci := 6) (C := RX7) (T := TX7) (N := 13) hx_X7 (by decide) rfl rfl (by decide) rfl (List.mem_cons_of_mem _ (List.mem_append_left _ (iw1 _ (List.mem_of_getElem? (i := 16) rfl)))) rfl dX7_life_70 ?_
          refine z_iload_n (pc := 73) dX7_life_73 rfl 1 rfl ?_
          refine z_callV (pc := 74) (kc := kX1_birthOf) (n := 1) (pl := 1) (ci := 1) (C := RX1) (As := [AI k]) (stk := []) ct_X1_birthOf (good_x (gdV (k := k0X7_life) rfl rfl (iw12 _ (List.mem_of_getElem? (i := 2) rfl)) (iw7 _ (List.mem_of_getElem? (i := 10) rfl)) (iw7 _ (List.mem_of_getElem? (i := 11) rfl)) (iw1 _ (List.mem_of_getElem? (i := 15) rfl)) (iw7 _ (List.mem_of_getElem? (i := 12) rfl)))) rfl ⟨rfl, rfl⟩ (by decide +kernel) ⟨by decide, by decide⟩ (by decide) rfl rfl dX7_life_74 rfl rfl (Nat.le_of_ble_eq_true rfl) ?_
          refine ⟨_, rfl, by omega, fun v6 ev6 => ?_⟩
          refine z_iret (pc := 77) rfl dX7_life_77 ?_
          exact hQ v6 (⟨by omega, Or.inr ⟨by omega, by rw [show y = 1 by omega]; show _ = bO (hi 2) k; omega⟩⟩)
        · refine zx_of ?_
          have hk : 0 ≤ k ∧ k < hi 2 1 := by omega
          have rk := toRng hpre.1 hk
          refine z_aload_n (pc := 78) (x := 1) dX7_life_78 rfl 0 rfl ?_
          refine z_getR (pc := 79) (pl := 0) (f := 0) (ci := 6) (C := RX7) (T := TX7) (N := 13) hx_X7 (by decide) rfl rfl (by decide) rfl (List.mem_cons_of_mem _ (List.mem_append_left _ (iw1 _ (List.mem_of_getElem? (i := 16) rfl)))) rfl dX7_life_79 ?_
          refine z_iload_n (pc := 82) dX7_life_82 rfl 1 rfl ?_
          refine z_callV (pc := 83) (kc := kX1_deathOf) (n := 1) (pl := 1) (ci := 1) (C := RX1) (As := [AI k]) (stk := []) ct_X1_deathOf (good_x (gdV (k := k0X7_life) rfl rfl (iw14 _ (List.mem_of_getElem? (i := 8) rfl)) (iw7 _ (List.mem_of_getElem? (i := 14) rfl)) (iw7 _ (List.mem_of_getElem? (i := 15) rfl)) (iw1 _ (List.mem_of_getElem? (i := 15) rfl)) (iw7 _ (List.mem_of_getElem? (i := 16) rfl)))) rfl ⟨rfl, rfl⟩ (by decide +kernel) ⟨by decide, by decide⟩ (by decide) rfl rfl dX7_life_83 rfl rfl (Nat.le_of_ble_eq_true rfl) ?_
          refine ⟨_, rfl, by omega, fun v7 ev7 => ?_⟩
          refine z_iret (pc := 86) rfl dX7_life_86 ?_
          exact hQ v7 (⟨by omega, Or.inr ⟨by omega, by rw [show y = 2 by omega]; show _ = dO (hi 2) k; omega⟩⟩)
        · refine zx_of ?_
          have hk : 0 ≤ k ∧ k < hi 2 1 := by omega
          have rk := toRng hpre.1 hk
          refine z_aload_n (pc := 87) (x := 1) dX7_life_87 rfl 0 rfl ?_
          refine z_getR (pc := 88) (pl := 0) (f := 0) (ci := 6) (C := RX7) (T := TX7) (N := 13) hx_X7 (by decide) rfl rfl (by decide) rfl (List.mem_cons_of_mem _ (List.mem_append_left _ (iw1 _ (List.mem_of_getElem? (i := 16) rfl)))) rfl dX7_life_88 ?_
          refine z_iload_n (pc := 91) dX7_life_91 rfl 1 rfl ?_
          refine z_callV (pc := 92) (kc := kX1_worthOf) (n := 1) (pl := 1) (ci := 1) (C := RX1) (As := [AI k]) (stk := []) ct_X1_worthOf (good_x (gdV (k := k0X7_life) rfl rfl (iw12 _ (List.mem_of_getElem? (i := 8) rfl)) (iw12 _ (List.mem_of_getElem? (i := 9) rfl)) (iw12 _ (List.mem_of_getElem? (i := 10) rfl)) (iw1 _ (List.mem_of_getElem? (i := 15) rfl)) (iw12 _ (List.mem_of_getElem? (i := 11) rfl)))) rfl ⟨rfl, rfl⟩ (by decide +kernel) ⟨by decide, by decide⟩ (by decide) rfl rfl dX7_life_92 rfl rfl (Nat.le_of_ble_eq_true rfl) ?_
          refine ⟨_, rfl, by omega, fun v8 ev8 => ?_⟩
          refine z_iret (pc := 95) rfl dX7_life_95 ?_
          exact hQ v8 (⟨by omega, Or.inr ⟨by omega, by rw [show y = 3 by omega]; show _ = wO (hi 2) k; omega⟩⟩)
        · refine zx_of ?_
          have hk : 0 ≤ k ∧ k < hi 2 1 := by omega
          have rk := toRng hpre.1 hk
          refine z_aload_n (pc := 96) (x := 1) dX7_life_96 rfl 0 rfl ?_
          refine z_getR (pc := 97) (pl := 0) (f := 0) (ci := 6) (C := RX7) (T := TX7) (N := 13) hx_X7 (by decide) rfl rfl (by decide) rfl (List.mem_cons_of_mem _ (List.mem_append_left _ (iw1 _ (List.mem_of_getElem? (i := 16) rfl)))) rfl dX7_life_97 ?_
          refine z_iload_n (pc := 100) dX7_life_100 rfl 1 rfl ?_
          refine z_callV (pc := 101) (kc := kX1_birthOf) (n := 1) (pl := 1) (ci := 1) (C := RX1) (As := [AI k]) (stk := []) ct_X1_birthOf (good_x (gdV (k := k0X7_life) rfl rfl (iw12 _ (List.mem_of_getElem? (i := 2) rfl)) (iw7 _ (List.mem_of_getElem? (i := 10) rfl)) (iw7 _ (List.mem_of_getElem? (i := 11) rfl)) (iw1 _ (List.mem_of_getElem? (i := 15) rfl)) (iw7 _ (List.mem_of_getElem? (i := 12) rfl)))) rfl ⟨rfl, rfl⟩ (by decide +kernel) ⟨by decide, by decide⟩ (by decide) rfl rfl dX7_life_101 rfl rfl (Nat.le_of_ble_eq_true rfl) ?_
          refine ⟨_, rfl, by omega, fun v9 ev9 => ?_⟩
          refine z_aload_n (pc := 104) (x := 1) dX7_life_104 rfl 0 rfl ?_
          refine z_getR (pc := 105) (pl := 0) (f := 0) (ci := 6) (C := RX7) (T := TX7) (N := 13) hx_X7 (by decide) rfl rfl (by decide) rfl (List.mem_cons_of_mem _ (List.mem_append_left _ (iw1 _ (List.mem_of_getElem? (i := 16) rfl)))) rfl dX7_life_105 ?_
          refine z_iload_n (pc := 108) dX7_life_108 rfl 1 rfl ?_
          refine z_callV (pc := 109) (kc := kX1_deathOf) (n := 1) (pl := 1) (ci := 1) (C := RX1) (As := [AI k]) (stk := [AI v9]) ct_X1_deathOf (good_x (gdV (k := k0X7_life) rfl rfl (iw14 _ (List.mem_of_getElem? (i := 8) rfl)) (iw7 _ (List.mem_of_getElem? (i := 14) rfl)) (iw7 _ (List.mem_of_getElem? (i := 15) rfl)) (iw1 _ (List.mem_of_getElem? (i := 15) rfl)) (iw7 _ (List.mem_of_getElem? (i := 16) rfl)))) rfl ⟨rfl, rfl⟩ (by decide +kernel) ⟨by decide, by decide⟩ (by decide) rfl rfl dX7_life_109 rfl rfl (Nat.le_of_ble_eq_true rfl) ?_
          refine ⟨_, rfl, by omega, fun v10 ev10 => ?_⟩
          refine z_callS (pc := 112) (kc := kX7_piecesOf) (n := 2) (As := [AI v9, AI v10]) (stk := []) ct_X7_piecesOf (good_x (gdS (k := k0X7_life) rfl rfl (iw44 _ (List.mem_of_getElem? (i := 0) rfl)) (iw35 _ (List.mem_of_getElem? (i := 12) rfl)) (iw1 _ (List.mem_of_getElem? (i := 2) rfl)) (iw35 _ (List.mem_of_getElem? (i := 13) rfl)))) rfl ⟨rfl, rfl⟩ (by decide +kernel) ⟨by decide, by decide⟩ dX7_life_112 rfl rfl (Nat.le_of_ble_eq_true rfl) ?_
          refine ⟨_, _, rfl, by omega, fun v11 ev11 => ?_⟩
          rw [show v9 = bO (hi 2) k by omega, show v10 = dO (hi 2) k by omega] at ev11
          refine z_iret (pc := 115) rfl dX7_life_115 ?_
          exact hQ v11 (⟨by omega, Or.inl ⟨by omega, by omega⟩⟩)
    · exact thr (by omega) _ _ (Or.inl rfl)

abbrev kX7_livesAsked : Kd := (cX7_livesAsked, .code yX7_livesAsked cX7_livesAsked 4 (some .int) :: wsL_law0, rmL 17, RX7, (some .int), 4)
theorem ct_X7_livesAsked : Ct kX7_livesAsked yX7_livesAsked (fun a hi Q => ∃ b : Int, ∃ S : Nat → Int, ∃ P : Nat → Int, ∃ V : Nat → Int, ∃ m : Nat, ∃ g : Ex, a = [AR 1, AI b] ∧ (RI (hi 2) (hi 2 1) ∧ TE hi S P V m ∧ (∀ i : Nat, i ≤ m → S i = 2 → 0 ≤ V i ∧ V i ≤ 999) ∧ (hi 35 3 = 0 ∧ hi 35 4 = 2 ∧ 2 ≤ m) ∧ FBx hi ∧ res 0 S P V (0, 2, [], []) = .inr g ∧ QG 0 g ∧ (b = 0 ∨ b = 1)) ∧ ∀ (v : Int) (h2 : HI), (Fr [29, 36] hi h2 ∧ FF 29 [6, 7, 8] hi h2 ∧ (v = sm (fun z => if g (lifeF (hi 2) z) = 1 then (if b = 1 then wO (hi 2) z else 1) else 0) (hi 2 1).toNat ∧ FBx h2)) → Q (AI v) h2) := by
  refine Ct.of (ws' := _) (by decide +kernel) rfl rfl ?_
  intro a hi Q hT
  obtain ⟨b, S, P, V, m, g, rfl, hpre, hQ⟩ := hT
  refine ⟨Nat.le_of_ble_eq_true rfl, ?_⟩
  show Z kX7_livesAsked Q 0 [(0, AR 1), (1, AI b)] [] hi
  obtain ⟨ri, t0, hV, ⟨z3, z4, m2⟩, fb, hG, qg, hb⟩ := hpre
  have n40 := ri.1
  have r4 : inR (hi 35 4) := ⟨by omega, by omega⟩
  refine z_iconst (pc := 0) (v := 0) dX7_livesAsked_0 rfl ?_
  refine z_istore_n (pc := 1) (lv' := [(2, AI 0), (0, AR 1), (1, AI b)]) dX7_livesAsked_1 rfl (by decide) rfl ?_
  refine z_iconst (pc := 2) (v := 0) dX7_livesAsked_2 rfl ?_
  refine z_istore_n (pc := 3) (lv' := [(3, AI 0), (2, AI 0), (0, AR 1), (1, AI b)]) dX7_livesAsked_3 rfl (by decide) rfl ?_
  have J4 : ∀ (N : Nat) (acc k : Int) (hk : HI), (0 ≤ k ∧ k ≤ hi 2 1) → (acc = sm (fun z => if g (lifeF (hi 2) z) = 1 then (if b = 1 then wO (hi 2) z else 1) else 0) k.toNat) → (TE hk S P V m) → (FBx hk) → (Fr [29, 36] hi hk) → (FF 29 [6, 7, 8] hi hk) → ((hi 2 1 - k).toNat) < N → Z kX7_livesAsked Q 4 [(3, AI k), (2, AI acc), (0, AR 1), (1, AI b)] [] hk := by
    intro N
    induction N with
    | zero => intro acc k hk _ _ _ _ _ _ _; exact absurd (by assumption) (Nat.not_lt_zero _)
    | succ N ih4 =>
      intro acc k hk i0 i1 i2 i3 frlhk ffl29hk hm4
      refine z_iload_n (pc := 4) dX7_livesAsked_4 rfl 0 rfl ?_
      refine z_aload_n (pc := 5) (x := 1) dX7_livesAsked_5 rfl 2 rfl ?_
      refine z_getR (pc := 6) (pl := 0) (f := 0) (ci := 6) (C := RX7) (T := TX7) (N := 13) hu_X7 (by decide) rfl rfl (by decide) rfl (List.mem_cons_of_mem _ (iw1 _ (List.mem_of_getElem? (i := 16) rfl))) rfl dX7_livesAsked_6 ?_
      refine z_callV (pc := 9) (kc := kX1_size) (n := 0) (pl := 1) (ci := 1) (C := RX1) (As := []) (stk := [AI k]) ct_X1_size (gdV rfl rfl (iw7 _ (List.mem_of_getElem? (i := 21) rfl)) (iw7 _ (List.mem_of_getElem? (i := 2) rfl)) (iw7 _ (List.mem_of_getElem? (i := 3) rfl)) (iw1 _ (List.mem_of_getElem? (i := 15) rfl)) (iw7 _ (List.mem_of_getElem? (i := 4) rfl))) rfl ⟨rfl, rfl⟩ (by decide +kernel) ⟨by decide, by decide⟩ (by decide) rfl rfl dX7_livesAsked_9 rfl rfl (Nat.le_of_ble_eq_true rfl) ?_
      refine ⟨rfl, trivial, fun v1 ev1 => ?_⟩
      try rw [(frlhk 2 (by decide) : hk 2 = hi 2)] at ev1
      refine z_icmp_ge (pc := 12) (tgt := 63) dX7_livesAsked_12 (by decide) ⟨by omega, by omega⟩ ⟨by omega, by omega⟩ (fun c2 => ?_) (fun c2 => ?_)
      · refine z_iload_n (pc := 63) dX7_livesAsked_63 rfl 1 rfl ?_
        refine z_iret (pc := 64) rfl dX7_livesAsked_64 ?_
        exact hQ acc hk ⟨frlhk, ffl29hk, ⟨by rw [i1, show k = hi 2 1 by omega], i3⟩⟩
      · refine z_aload_n (pc := 15) (x := 1) dX7_livesAsked_15 rfl 2 rfl ?_
        refine z_getR (pc := 16) (pl := 0) (f := 6) (ci := 6) (C := RX7) (T := TX7) (N := 13) hu_X7 (by decide) rfl rfl (by decide) rfl (List.mem_cons_of_mem _ (iw2 _ (List.mem_of_getElem? (i := 13) rfl))) rfl dX7_livesAsked_16 ?_
        refine z_aload_n (pc := 19) (x := 1) dX7_livesAsked_19 rfl 2 rfl ?_
        refine z_getR (pc := 20) (pl := 0) (f := 0) (ci := 6) (C := RX7) (T := TX7) (N := 13) hu_X7 (by decide) rfl rfl (by decide) rfl (List.mem_cons_of_mem _ (iw1 _ (List.mem_of_getElem? (i := 16) rfl))) rfl dX7_livesAsked_20 ?_
        refine z_iload_n (pc := 23) dX7_livesAsked_23 rfl 0 rfl ?_
        refine z_callV (pc := 24) (kc := kX4_tellLife) (n := 2) (pl := 35) (ci := 4) (C := RX4) (As := [AR 2, AI k]) (stk := []) ct_X4_tellLife (gdV rfl rfl (iw35 _ (List.mem_of_getElem? (i := 5) rfl)) (iw35 _ (List.mem_of_getElem? (i := 6) rfl)) (iw35 _ (List.mem_of_getElem? (i := 7) rfl)) (iw2 _ (List.mem_of_getElem? (i := 12) rfl)) (iw35 _ (List.mem_of_getElem? (i := 8) rfl))) rfl ⟨rfl, rfl⟩ (by decide +kernel) ⟨by decide, by decide⟩ (by decide) rfl rfl dX7_livesAsked_24 rfl rfl (Nat.le_of_ble_eq_true rfl) ?_
        refine ⟨_, rfl, ⟨by rw [(by rw [(frlhk 2 (by decide) : hk 2 = hi 2)] : hk 2 = hi 2)]; exact ri, by rw [(by rw [(frlhk 2 (by decide) : hk 2 = hi 2)] : hk 2 = hi 2)]; omega, by rw [(by rw [(congrFun (frlhk 35 (by decide)) 4 : hk 35 4 = hi 35 4)] : hk 35 4 = hi 35 4)]; exact r4⟩, fun h3 eh3 => ?_⟩
        have frh3 : Fr [29, 36] hi h3 := (Fr.call frlhk eh3.1 (by decide))
        have ff29h3 : FF 29 [6, 7, 8] hi h3 := FF.call ffl29hk (eh3.2.1) (by decide)
        try rw [(frlhk 2 (by decide) : hk 2 = hi 2)] at eh3
        try rw [(frlhk 35 (by decide) : hk 35 = hi 35)] at eh3
        have tl : TS h3 S P V m 2 := tell_ts i2 eh3.1 eh3.2.2.1 z4 m2
        have w36 := eh3.2.2.2.1
        have fb2 := eh3.2.2.2.2
        refine z_aload_n (pc := 27) (x := 1) dX7_livesAsked_27 rfl 2 rfl ?_
        refine z_getR (pc := 28) (pl := 0) (f := 6) (ci := 6) (C := RX7) (T := TX7) (N := 13) hu_X7 (by decide) rfl rfl (by decide) rfl (List.mem_cons_of_mem _ (iw2 _ (List.mem_of_getElem? (i := 13) rfl))) rfl dX7_livesAsked_28 ?_
        refine z_iconst (pc := 31) (v := 0) dX7_livesAsked_31 rfl ?_
        refine z_callVN (pc := 32) (kc := (kX4_condHolds 5)) (n := 1) (pl := 35) (ci := 4) (C := RX4) (As := [AI 0]) (stk := []) ct_X4_condHolds_0 (List.mem_of_getElem? (i := 0) rfl) (gdN rfl rfl (iw32 _ (List.mem_of_getElem? (i := 10) rfl))) (List.mem_cons_of_mem _ (iw32 _ (List.mem_of_getElem? (i := 8) rfl))) (List.mem_cons_of_mem _ (iw32 _ (List.mem_of_getElem? (i := 9) rfl))) (List.mem_cons_of_mem _ (iw2 _ (List.mem_of_getElem? (i := 12) rfl))) rfl ⟨rfl, rfl⟩ (by decide +kernel) ⟨by decide, by decide⟩ (by decide) rfl rfl dX7_livesAsked_32 rfl rfl (Nat.le_of_ble_eq_true rfl) ?_
        refine ⟨_, S, P, V, m, 2, rfl, ⟨tl, by rw [(by rw [(congrFun (eh3.1 35 (by decide)) 3 : h3 35 3 = hk 35 3), (congrFun (frlhk 35 (by decide)) 3 : hk 35 3 = hi 35 3)] : h3 35 3 = hi 35 3)]; exact ⟨by omega, fb2, hV⟩, rfl⟩, fun v4 h5 eh5 => ?_⟩
        have frh5 : Fr [29, 36] hi h5 := (Fr.call frh3 eh5.1 (by decide))
        have ff29h5 : FF 29 [6, 7, 8] hi h5 := FF.call ff29h3 (eh5.2.1) (by decide)
        rw [(congrFun (eh3.1 35 (by decide)) 3 : h3 35 3 = hk 35 3), (congrFun (frlhk 35 (by decide)) 3 : hk 35 3 = hi 35 3)] at eh5
        rw [z3] at eh5
        have eph5 := eh5.2.2
        replace eh5 := And.intro eh5.1 (And.intro eh5.2.1 trivial)
        obtain ⟨tbh5, eph5⟩ := eph5
        rcases eph5 with ⟨kh5, ph5, th5, hrh5⟩ | ⟨ch5, gh5, th5, gch5, geh5, gdh5, ⟨g27h5, g28h5⟩, hrh5⟩
        · exact absurd (hrh5.symm.trans hG) (fun q => by cases q)
        · have cmh5 := th5.2.1
          have eg := r_uq g27h5 g28h5 (hrh5.symm.trans hG)
          have vg := geh5
          rw [eg, qg.2 _ (lifeF (hi 2) k) (fun j hj => w36 j (by rw [if_neg (by decide)] at hj; omega))] at vg
          have vb := qg.1 (lifeF (hi 2) k)
          refine z_if_eq (pc := 35) (tgt := 57) dX7_livesAsked_35 (by decide) ⟨by omega, by omega⟩ (fun c6 => ?_) (fun c6 => ?_)
          · refine z_iinc (pc := 57) (j := 0) (w := fun q => (3, AI q) :: [(2, AI acc), (0, AR 1), (1, AI b)]) dX7_livesAsked_57 rfl (by decide) (fun _ => rfl) (fun v7 ev7 => ?_)
            refine z_goto (pc := 60) (tgt := 4) dX7_livesAsked_60 (by decide) ?_
            exact ih4 acc v7 h5 (by omega) (sm_step (g := fun z => if g (lifeF (hi 2) z) = 1 then (if b = 1 then wO (hi 2) z else 1) else 0) (by omega) (by omega) i1 (by (repeat (first | rw [if_pos (by omega)] | rw [if_neg (by omega)])); first | done | omega)) (TE.of th5) (fun j hj => by rw [(by rw [(eh5.1 36 (by decide) : h5 36 = h3 36)] : h5 36 = h3 36)]; exact fb2 j hj) (frh5) (ff29h5) (by omega)
          · refine z_iload_n (pc := 38) dX7_livesAsked_38 rfl 1 rfl ?_
            refine z_iload_n (pc := 39) dX7_livesAsked_39 rfl 3 rfl ?_
            refine z_if_eq (pc := 40) (tgt := 54) dX7_livesAsked_40 (by decide) ⟨by omega, by omega⟩ (fun c8 => ?_) (fun c8 => ?_)
            · refine z_iconst (pc := 54) (v := 1) dX7_livesAsked_54 rfl ?_
              refine z_iadd (pc := 55) dX7_livesAsked_55 (fun v9 ev9 => ?_)
              refine z_istore_n (pc := 56) (lv' := [(2, AI v9), (3, AI k), (0, AR 1), (1, AI b)]) dX7_livesAsked_56 rfl (by decide) rfl ?_
              refine z_iinc (pc := 57) (j := 1) (w := fun q => (3, AI q) :: [(2, AI v9), (0, AR 1), (1, AI b)]) dX7_livesAsked_57 rfl (by decide) (fun _ => rfl) (fun v10 ev10 => ?_)
              refine z_goto (pc := 60) (tgt := 4) dX7_livesAsked_60 (by decide) ?_
              exact ih4 v9 v10 h5 (by omega) (sm_step (g := fun z => if g (lifeF (hi 2) z) = 1 then (if b = 1 then wO (hi 2) z else 1) else 0) (by omega) (by omega) i1 (by (repeat (first | rw [if_pos (by omega)] | rw [if_neg (by omega)])); first | done | omega)) (TE.of th5) (fun j hj => by rw [(by rw [(eh5.1 36 (by decide) : h5 36 = h3 36)] : h5 36 = h3 36)]; exact fb2 j hj) (frh5) (ff29h5) (by omega)
            · refine z_aload_n (pc := 43) (x := 1) dX7_livesAsked_43 rfl 2 rfl ?_
              refine z_getR (pc := 44) (pl := 0) (f := 0) (ci := 6) (C := RX7) (T := TX7) (N := 13) hu_X7 (by decide) rfl rfl (by decide) rfl (List.mem_cons_of_mem _ (iw1 _ (List.mem_of_getElem? (i := 16) rfl))) rfl dX7_livesAsked_44 ?_
              refine z_iload_n (pc := 47) dX7_livesAsked_47 rfl 0 rfl ?_
              refine z_callV (pc := 48) (kc := kX1_worthOf) (n := 1) (pl := 1) (ci := 1) (C := RX1) (As := [AI k]) (stk := [AI acc]) ct_X1_worthOf (gdV rfl rfl (iw12 _ (List.mem_of_getElem? (i := 8) rfl)) (iw12 _ (List.mem_of_getElem? (i := 9) rfl)) (iw12 _ (List.mem_of_getElem? (i := 10) rfl)) (iw1 _ (List.mem_of_getElem? (i := 15) rfl)) (iw12 _ (List.mem_of_getElem? (i := 11) rfl))) rfl ⟨rfl, rfl⟩ (by decide +kernel) ⟨by decide, by decide⟩ (by decide) rfl rfl dX7_livesAsked_48 rfl rfl (Nat.le_of_ble_eq_true rfl) ?_
              refine ⟨_, rfl, by omega, fun v11 ev11 => ?_⟩
              try rw [(eh5.1 2 (by decide) : h5 2 = h3 2), (eh3.1 2 (by decide) : h3 2 = hk 2), (frlhk 2 (by decide) : hk 2 = hi 2)] at ev11
              refine z_goto (pc := 51) (tgt := 55) dX7_livesAsked_51 (by decide) ?_
              refine z_iadd (pc := 55) dX7_livesAsked_55 (fun v12 ev12 => ?_)
              refine z_istore_n (pc := 56) (lv' := [(2, AI v12), (3, AI k), (0, AR 1), (1, AI b)]) dX7_livesAsked_56 rfl (by decide) rfl ?_
              refine z_iinc (pc := 57) (j := 1) (w := fun q => (3, AI q) :: [(2, AI v12), (0, AR 1), (1, AI b)]) dX7_livesAsked_57 rfl (by decide) (fun _ => rfl) (fun v13 ev13 => ?_)
              refine z_goto (pc := 60) (tgt := 4) dX7_livesAsked_60 (by decide) ?_
              exact ih4 v12 v13 h5 (by omega) (sm_step (g := fun z => if g (lifeF (hi 2) z) = 1 then (if b = 1 then wO (hi 2) z else 1) else 0) (by omega) (by omega) i1 (by (repeat (first | rw [if_pos (by omega)] | rw [if_neg (by omega)])); first | done | omega)) (TE.of th5) (fun j hj => by rw [(by rw [(eh5.1 36 (by decide) : h5 36 = h3 36)] : h5 36 = h3 36)]; exact fb2 j hj) (frh5) (ff29h5) (by omega)
  exact J4 _ 0 0 hi (by omega) (sm_0 rfl rfl) (t0) (fb) ((Fr.rf)) ((FF.rf)) (Nat.lt_succ_self _)

abbrev kX7_hoursAsked : Kd := (cX7_hoursAsked, .code yX7_hoursAsked cX7_hoursAsked 7 (some .int) :: wsL_law0, rmL 17, RX7, (some .int), 7)
theorem ct_X7_hoursAsked : Ct kX7_hoursAsked yX7_hoursAsked (fun a hi Q => ∃ b : Int, ∃ S : Nat → Int, ∃ P : Nat → Int, ∃ V : Nat → Int, ∃ m : Nat, ∃ g : Ex, a = [AR 1, AI b] ∧ (RI (hi 2) (hi 2 1) ∧ TE hi S P V m ∧ (∀ i : Nat, i ≤ m → S i = 2 → 0 ≤ V i ∧ V i ≤ 999) ∧ (hi 35 3 = 1 ∧ hi 35 4 = 2 ∧ 2 ≤ m) ∧ FBx hi ∧ res 1 S P V (0, 2, [], []) = .inr g ∧ QG 1 g ∧ (b = 0 ∨ b = 1)) ∧ ∀ (v : Int) (h2 : HI), (Fr [29, 36] hi h2 ∧ FF 29 [6, 7, 8] hi h2 ∧ (v = (if b = 1 then (rwL (fun h => g (hourF (hi 2) (hi 2 1) h)) 64).2 else sm (fun h => if g (hourF (hi 2) (hi 2 1) h) = 1 then 1 else 0) 64) ∧ FBx h2)) → Q (AI v) h2) := by
  refine Ct.of (ws' := _) (by decide +kernel) rfl rfl ?_
  intro a hi Q hT
  obtain ⟨b, S, P, V, m, g, rfl, hpre, hQ⟩ := hT
  refine ⟨Nat.le_of_ble_eq_true rfl, ?_⟩
  show Z kX7_hoursAsked Q 0 [(0, AR 1), (1, AI b)] [] hi
  obtain ⟨ri, t0, hV, ⟨z3, z4, m2⟩, fb, hG, qg, hb⟩ := hpre
  have n40 := ri.1
  have r4 : inR (hi 35 4) := ⟨by omega, by omega⟩
  refine z_iconst (pc := 0) (v := 0) dX7_hoursAsked_0 rfl ?_
  refine z_istore_n (pc := 1) (lv' := [(2, AI 0), (0, AR 1), (1, AI b)]) dX7_hoursAsked_1 rfl (by decide) rfl ?_
  refine z_iconst (pc := 2) (v := 0) dX7_hoursAsked_2 rfl ?_
  refine z_istore_n (pc := 3) (lv' := [(3, AI 0), (2, AI 0), (0, AR 1), (1, AI b)]) dX7_hoursAsked_3 rfl (by decide) rfl ?_
  refine z_iconst (pc := 4) (v := 0) dX7_hoursAsked_4 rfl ?_
  refine z_istore (pc := 5) (lv' := [(4, AI 0), (3, AI 0), (2, AI 0), (0, AR 1), (1, AI b)]) dX7_hoursAsked_5 (by decide) rfl ?_
  refine z_iconst (pc := 7) (v := 0) dX7_hoursAsked_7 rfl ?_
  refine z_istore (pc := 8) (lv' := [(5, AI 0), (4, AI 0), (3, AI 0), (2, AI 0), (0, AR 1), (1, AI b)]) dX7_hoursAsked_8 (by decide) rfl ?_
  have J10 : ∀ (N : Nat) (acc row lon h : Int) (hk : HI), ((0 ≤ h ∧ h ≤ 64) ∧ (0 ≤ row ∧ row ≤ h) ∧ 0 ≤ lon ∧ lon ≤ h) → (acc = sm (fun h => if g (hourF (hi 2) (hi 2 1) h) = 1 then 1 else 0) h.toNat) → ((row, lon) = rwL (fun h => g (hourF (hi 2) (hi 2 1) h)) h.toNat) → (TE hk S P V m) → (FBx hk) → (Fr [29, 36] hi hk) → (FF 29 [6, 7, 8] hi hk) → ((64 - h).toNat) < N → Z kX7_hoursAsked Q 10 [(5, AI h), (4, AI lon), (3, AI row), (2, AI acc), (0, AR 1), (1, AI b)] [] hk := by
    intro N
    induction N with
    | zero => intro acc row lon h hk _ _ _ _ _ _ _ _; exact absurd (by assumption) (Nat.not_lt_zero _)
    | succ N ih10 =>
      intro acc row lon h hk i0 i1 i1b i2 i3 frlhk ffl29hk hm10
      refine z_iload (pc := 10) dX7_hoursAsked_10 0 rfl ?_
      refine z_bipush (pc := 12) (v := 64) dX7_hoursAsked_12 (by decide +kernel) ?_
      refine z_icmp_ge (pc := 14) (tgt := 80) dX7_hoursAsked_14 (by decide) ⟨by omega, by omega⟩ ⟨by decide, by decide⟩ (fun c1 => ?_) (fun c1 => ?_)
      · refine z_iload_n (pc := 80) dX7_hoursAsked_80 rfl 5 rfl ?_
        refine z_if_eq (pc := 81) (tgt := 89) dX7_hoursAsked_81 (by decide) ⟨by omega, by omega⟩ (fun c2 => ?_) (fun c2 => ?_)
        · refine z_iload_n (pc := 89) dX7_hoursAsked_89 rfl 3 rfl ?_
          refine z_iret (pc := 90) rfl dX7_hoursAsked_90 ?_
          exact hQ acc hk ⟨frlhk, ffl29hk, by first | (exfalso; omega) | exact ⟨by rw [if_pos (by omega), show (64 : Nat) = h.toNat by omega, ← i1b], i3⟩ | exact ⟨by rw [if_neg (by omega), show (64 : Nat) = h.toNat by omega, i1], i3⟩⟩
        · refine z_iload (pc := 84) dX7_hoursAsked_84 1 rfl ?_
          refine z_goto (pc := 86) (tgt := 90) dX7_hoursAsked_86 (by decide) ?_
          refine z_iret (pc := 90) rfl dX7_hoursAsked_90 ?_
          exact hQ lon hk ⟨frlhk, ffl29hk, by first | (exfalso; omega) | exact ⟨by rw [if_pos (by omega), show (64 : Nat) = h.toNat by omega, ← i1b], i3⟩ | exact ⟨by rw [if_neg (by omega), show (64 : Nat) = h.toNat by omega, i1], i3⟩⟩
      · refine z_aload_n (pc := 17) (x := 1) dX7_hoursAsked_17 rfl 4 rfl ?_
        refine z_getR (pc := 18) (pl := 0) (f := 6) (ci := 6) (C := RX7) (T := TX7) (N := 13) hu_X7 (by decide) rfl rfl (by decide) rfl (List.mem_cons_of_mem _ (iw2 _ (List.mem_of_getElem? (i := 13) rfl))) rfl dX7_hoursAsked_18 ?_
        refine z_aload_n (pc := 21) (x := 1) dX7_hoursAsked_21 rfl 4 rfl ?_
        refine z_getR (pc := 22) (pl := 0) (f := 0) (ci := 6) (C := RX7) (T := TX7) (N := 13) hu_X7 (by decide) rfl rfl (by decide) rfl (List.mem_cons_of_mem _ (iw1 _ (List.mem_of_getElem? (i := 16) rfl))) rfl dX7_hoursAsked_22 ?_
        refine z_iload (pc := 25) dX7_hoursAsked_25 0 rfl ?_
        refine z_callV (pc := 27) (kc := kX4_tellHour) (n := 2) (pl := 35) (ci := 4) (C := RX4) (As := [AR 2, AI h]) (stk := []) ct_X4_tellHour (gdV rfl rfl (iw34 _ (List.mem_of_getElem? (i := 2) rfl)) (iw34 _ (List.mem_of_getElem? (i := 3) rfl)) (iw34 _ (List.mem_of_getElem? (i := 4) rfl)) (iw2 _ (List.mem_of_getElem? (i := 12) rfl)) (iw34 _ (List.mem_of_getElem? (i := 5) rfl))) rfl ⟨rfl, rfl⟩ (by decide +kernel) ⟨by decide, by decide⟩ (by decide) rfl rfl dX7_hoursAsked_27 rfl rfl (Nat.le_of_ble_eq_true rfl) ?_
        refine ⟨_, rfl, ⟨by rw [(by rw [(frlhk 2 (by decide) : hk 2 = hi 2)] : hk 2 = hi 2)]; exact ri, by omega, by rw [(by rw [(congrFun (frlhk 35 (by decide)) 4 : hk 35 4 = hi 35 4)] : hk 35 4 = hi 35 4)]; exact r4, i3⟩, fun h3 eh3 => ?_⟩
        have frh3 : Fr [29, 36] hi h3 := (Fr.call frlhk eh3.1 (by decide))
        have ff29h3 : FF 29 [6, 7, 8] hi h3 := FF.call ffl29hk (eh3.2.1) (by decide)
        try rw [(frlhk 2 (by decide) : hk 2 = hi 2)] at eh3
        try rw [(frlhk 35 (by decide) : hk 35 = hi 35)] at eh3
        have tl : TS h3 S P V m 2 := tell_ts i2 eh3.1 eh3.2.2.1 z4 m2
        have w36 := eh3.2.2.2.1
        have fb2 := eh3.2.2.2.2
        refine z_aload_n (pc := 30) (x := 1) dX7_hoursAsked_30 rfl 4 rfl ?_
        refine z_getR (pc := 31) (pl := 0) (f := 6) (ci := 6) (C := RX7) (T := TX7) (N := 13) hu_X7 (by decide) rfl rfl (by decide) rfl (List.mem_cons_of_mem _ (iw2 _ (List.mem_of_getElem? (i := 13) rfl))) rfl dX7_hoursAsked_31 ?_
        refine z_iconst (pc := 34) (v := 0) dX7_hoursAsked_34 rfl ?_
        refine z_callVN (pc := 35) (kc := (kX4_condHolds 5)) (n := 1) (pl := 35) (ci := 4) (C := RX4) (As := [AI 0]) (stk := []) ct_X4_condHolds_0 (List.mem_of_getElem? (i := 0) rfl) (gdN rfl rfl (iw32 _ (List.mem_of_getElem? (i := 10) rfl))) (List.mem_cons_of_mem _ (iw32 _ (List.mem_of_getElem? (i := 8) rfl))) (List.mem_cons_of_mem _ (iw32 _ (List.mem_of_getElem? (i := 9) rfl))) (List.mem_cons_of_mem _ (iw2 _ (List.mem_of_getElem? (i := 12) rfl))) rfl ⟨rfl, rfl⟩ (by decide +kernel) ⟨by decide, by decide⟩ (by decide) rfl rfl dX7_hoursAsked_35 rfl rfl (Nat.le_of_ble_eq_true rfl) ?_
        refine ⟨_, S, P, V, m, 2, rfl, ⟨tl, by rw [(by rw [(congrFun (eh3.1 35 (by decide)) 3 : h3 35 3 = hk 35 3), (congrFun (frlhk 35 (by decide)) 3 : hk 35 3 = hi 35 3)] : h3 35 3 = hi 35 3)]; exact ⟨by omega, fb2, hV⟩, rfl⟩, fun v4 h5 eh5 => ?_⟩
        have frh5 : Fr [29, 36] hi h5 := (Fr.call frh3 eh5.1 (by decide))
        have ff29h5 : FF 29 [6, 7, 8] hi h5 := FF.call ff29h3 (eh5.2.1) (by decide)
        rw [(congrFun (eh3.1 35 (by decide)) 3 : h3 35 3 = hk 35 3), (congrFun (frlhk 35 (by decide)) 3 : hk 35 3 = hi 35 3)] at eh5
        rw [z3] at eh5
        have eph5 := eh5.2.2
        replace eh5 := And.intro eh5.1 (And.intro eh5.2.1 trivial)
        obtain ⟨tbh5, eph5⟩ := eph5
        rcases eph5 with ⟨kh5, ph5, th5, hrh5⟩ | ⟨ch5, gh5, th5, gch5, geh5, gdh5, ⟨g27h5, g28h5⟩, hrh5⟩
        · exact absurd (hrh5.symm.trans hG) (fun q => by cases q)
        · have cmh5 := th5.2.1
          have eg := r_uq g27h5 g28h5 (hrh5.symm.trans hG)
          have vg := geh5
          rw [eg, qg.2 _ (hourF (hi 2) (hi 2 1) h) (fun j hj => w36 j (by rw [if_pos rfl] at hj; omega))] at vg
          have vb := qg.1 (hourF (hi 2) (hi 2 1) h)
          refine z_istore (pc := 38) (lv' := [(6, AI v4), (5, AI h), (4, AI lon), (3, AI row), (2, AI acc), (0, AR 1), (1, AI b)]) dX7_hoursAsked_38 (by decide) rfl ?_
          refine z_iload_n (pc := 40) dX7_hoursAsked_40 rfl 4 rfl ?_
          refine z_iload (pc := 41) dX7_hoursAsked_41 0 rfl ?_
          refine z_if_eq (pc := 43) (tgt := 50) dX7_hoursAsked_43 (by decide) ⟨by omega, by omega⟩ (fun c6 => ?_) (fun c6 => ?_)
          · refine z_iconst (pc := 50) (v := 0) dX7_hoursAsked_50 rfl ?_
            refine z_iadd (pc := 51) dX7_hoursAsked_51 (fun v7 ev7 => ?_)
            refine z_istore_n (pc := 52) (lv' := [(2, AI v7), (6, AI v4), (5, AI h), (4, AI lon), (3, AI row), (0, AR 1), (1, AI b)]) dX7_hoursAsked_52 rfl (by decide) rfl ?_
            refine z_iload (pc := 53) dX7_hoursAsked_53 1 rfl ?_
            refine z_if_eq (pc := 55) (tgt := 64) dX7_hoursAsked_55 (by decide) ⟨by omega, by omega⟩ (fun c8 => ?_) (fun c8 => ?_)
            · refine z_iconst (pc := 64) (v := 0) dX7_hoursAsked_64 rfl ?_
              refine z_istore_n (pc := 65) (lv' := [(3, AI 0), (2, AI v7), (6, AI v4), (5, AI h), (4, AI lon), (0, AR 1), (1, AI b)]) dX7_hoursAsked_65 rfl (by decide) rfl ?_
              refine z_iload (pc := 66) dX7_hoursAsked_66 4 rfl ?_
              refine z_iload_n (pc := 68) dX7_hoursAsked_68 rfl 0 rfl ?_
              refine z_mmax (pc := 69) (stk := []) ⟨by omega, by omega⟩ ⟨by decide, by decide⟩ (List.mem_cons_of_mem _ (iw34 _ (List.mem_of_getElem? (i := 1) rfl))) (List.mem_cons_of_mem _ (iw18 _ (List.mem_of_getElem? (i := 12) rfl))) (List.mem_cons_of_mem _ (iw8 _ (List.mem_of_getElem? (i := 4) rfl))) (List.mem_cons_of_mem _ (iw18 _ (List.mem_of_getElem? (i := 13) rfl))) (Nat.le_of_ble_eq_true rfl) (Nat.le_of_ble_eq_true rfl) dX7_hoursAsked_69 (fun v9 ev9 => ?_)
              refine z_istore (pc := 72) (lv' := [(4, AI v9), (3, AI 0), (2, AI v7), (6, AI v4), (5, AI h), (0, AR 1), (1, AI b)]) dX7_hoursAsked_72 (by decide) rfl ?_
              refine z_iinc (pc := 74) (j := 4) (w := fun q => (5, AI q) :: [(4, AI v9), (3, AI 0), (2, AI v7), (6, AI v4), (0, AR 1), (1, AI b)]) dX7_hoursAsked_74 rfl (by decide) (fun _ => rfl) (fun v10 ev10 => ?_)
              refine z_goto (pc := 77) (tgt := 10) dX7_hoursAsked_77 (by decide) ?_
              refine z_sub (lv' := [(5, AI v10), (4, AI v9), (3, AI 0), (2, AI v7), (0, AR 1), (1, AI b)]) [0, 1, 2, 3, 5, 6] rfl ?_
              exact ih10 v7 0 v9 v10 h5 (by omega) (by first | (exfalso; omega) | exact sm_step (g := (fun h => if g (hourF (hi 2) (hi 2 1) h) = 1 then 1 else 0)) (by omega) (by omega) i1 (by (repeat (first | rw [if_pos (by omega)] | rw [if_neg (by omega)])); first | done | omega)) (by first | (exfalso; omega) | exact rwL_step (by omega) (by omega) i1b (by (repeat (first | rw [if_pos (by omega)] | rw [if_neg (by omega)])); first | done | omega) (by split <;> omega)) (TE.of th5) (fun j hj => by rw [(by rw [(eh5.1 36 (by decide) : h5 36 = h3 36)] : h5 36 = h3 36)]; exact fb2 j hj) (frh5) (ff29h5) (by omega)
            · refine z_iload_n (pc := 58) dX7_hoursAsked_58 rfl 4 rfl ?_
              refine z_iconst (pc := 59) (v := 1) dX7_hoursAsked_59 rfl ?_
              refine z_iadd (pc := 60) dX7_hoursAsked_60 (fun v11 ev11 => ?_)
              refine z_goto (pc := 61) (tgt := 65) dX7_hoursAsked_61 (by decide) ?_
              refine z_istore_n (pc := 65) (lv' := [(3, AI v11), (2, AI v7), (6, AI v4), (5, AI h), (4, AI lon), (0, AR 1), (1, AI b)]) dX7_hoursAsked_65 rfl (by decide) rfl ?_
              refine z_iload (pc := 66) dX7_hoursAsked_66 4 rfl ?_
              refine z_iload_n (pc := 68) dX7_hoursAsked_68 rfl 0 rfl ?_
              refine z_mmax (pc := 69) (stk := []) ⟨by omega, by omega⟩ ⟨by omega, by omega⟩ (List.mem_cons_of_mem _ (iw34 _ (List.mem_of_getElem? (i := 1) rfl))) (List.mem_cons_of_mem _ (iw18 _ (List.mem_of_getElem? (i := 12) rfl))) (List.mem_cons_of_mem _ (iw8 _ (List.mem_of_getElem? (i := 4) rfl))) (List.mem_cons_of_mem _ (iw18 _ (List.mem_of_getElem? (i := 13) rfl))) (Nat.le_of_ble_eq_true rfl) (Nat.le_of_ble_eq_true rfl) dX7_hoursAsked_69 (fun v12 ev12 => ?_)
              refine z_istore (pc := 72) (lv' := [(4, AI v12), (3, AI v11), (2, AI v7), (6, AI v4), (5, AI h), (0, AR 1), (1, AI b)]) dX7_hoursAsked_72 (by decide) rfl ?_
              refine z_iinc (pc := 74) (j := 4) (w := fun q => (5, AI q) :: [(4, AI v12), (3, AI v11), (2, AI v7), (6, AI v4), (0, AR 1), (1, AI b)]) dX7_hoursAsked_74 rfl (by decide) (fun _ => rfl) (fun v13 ev13 => ?_)
              refine z_goto (pc := 77) (tgt := 10) dX7_hoursAsked_77 (by decide) ?_
              refine z_sub (lv' := [(5, AI v13), (4, AI v12), (3, AI v11), (2, AI v7), (0, AR 1), (1, AI b)]) [0, 1, 2, 3, 5, 6] rfl ?_
              exact ih10 v7 v11 v12 v13 h5 (by omega) (by first | (exfalso; omega) | exact sm_step (g := (fun h => if g (hourF (hi 2) (hi 2 1) h) = 1 then 1 else 0)) (by omega) (by omega) i1 (by (repeat (first | rw [if_pos (by omega)] | rw [if_neg (by omega)])); first | done | omega)) (by first | (exfalso; omega) | exact rwL_step (by omega) (by omega) i1b (by (repeat (first | rw [if_pos (by omega)] | rw [if_neg (by omega)])); first | done | omega) (by split <;> omega)) (TE.of th5) (fun j hj => by rw [(by rw [(eh5.1 36 (by decide) : h5 36 = h3 36)] : h5 36 = h3 36)]; exact fb2 j hj) (frh5) (ff29h5) (by omega)
          · refine z_iconst (pc := 46) (v := 1) dX7_hoursAsked_46 rfl ?_
            refine z_goto (pc := 47) (tgt := 51) dX7_hoursAsked_47 (by decide) ?_
            refine z_iadd (pc := 51) dX7_hoursAsked_51 (fun v14 ev14 => ?_)
            refine z_istore_n (pc := 52) (lv' := [(2, AI v14), (6, AI v4), (5, AI h), (4, AI lon), (3, AI row), (0, AR 1), (1, AI b)]) dX7_hoursAsked_52 rfl (by decide) rfl ?_
            refine z_iload (pc := 53) dX7_hoursAsked_53 1 rfl ?_
            refine z_if_eq (pc := 55) (tgt := 64) dX7_hoursAsked_55 (by decide) ⟨by omega, by omega⟩ (fun c15 => ?_) (fun c15 => ?_)
            · refine z_iconst (pc := 64) (v := 0) dX7_hoursAsked_64 rfl ?_
              refine z_istore_n (pc := 65) (lv' := [(3, AI 0), (2, AI v14), (6, AI v4), (5, AI h), (4, AI lon), (0, AR 1), (1, AI b)]) dX7_hoursAsked_65 rfl (by decide) rfl ?_
              refine z_iload (pc := 66) dX7_hoursAsked_66 4 rfl ?_
              refine z_iload_n (pc := 68) dX7_hoursAsked_68 rfl 0 rfl ?_
              refine z_mmax (pc := 69) (stk := []) ⟨by omega, by omega⟩ ⟨by decide, by decide⟩ (List.mem_cons_of_mem _ (iw34 _ (List.mem_of_getElem? (i := 1) rfl))) (List.mem_cons_of_mem _ (iw18 _ (List.mem_of_getElem? (i := 12) rfl))) (List.mem_cons_of_mem _ (iw8 _ (List.mem_of_getElem? (i := 4) rfl))) (List.mem_cons_of_mem _ (iw18 _ (List.mem_of_getElem? (i := 13) rfl))) (Nat.le_of_ble_eq_true rfl) (Nat.le_of_ble_eq_true rfl) dX7_hoursAsked_69 (fun v16 ev16 => ?_)
              refine z_istore (pc := 72) (lv' := [(4, AI v16), (3, AI 0), (2, AI v14), (6, AI v4), (5, AI h), (0, AR 1), (1, AI b)]) dX7_hoursAsked_72 (by decide) rfl ?_
              refine z_iinc (pc := 74) (j := 4) (w := fun q => (5, AI q) :: [(4, AI v16), (3, AI 0), (2, AI v14), (6, AI v4), (0, AR 1), (1, AI b)]) dX7_hoursAsked_74 rfl (by decide) (fun _ => rfl) (fun v17 ev17 => ?_)
              refine z_goto (pc := 77) (tgt := 10) dX7_hoursAsked_77 (by decide) ?_
              refine z_sub (lv' := [(5, AI v17), (4, AI v16), (3, AI 0), (2, AI v14), (0, AR 1), (1, AI b)]) [0, 1, 2, 3, 5, 6] rfl ?_
              exact ih10 v14 0 v16 v17 h5 (by omega) (by first | (exfalso; omega) | exact sm_step (g := (fun h => if g (hourF (hi 2) (hi 2 1) h) = 1 then 1 else 0)) (by omega) (by omega) i1 (by (repeat (first | rw [if_pos (by omega)] | rw [if_neg (by omega)])); first | done | omega)) (by first | (exfalso; omega) | exact rwL_step (by omega) (by omega) i1b (by (repeat (first | rw [if_pos (by omega)] | rw [if_neg (by omega)])); first | done | omega) (by split <;> omega)) (TE.of th5) (fun j hj => by rw [(by rw [(eh5.1 36 (by decide) : h5 36 = h3 36)] : h5 36 = h3 36)]; exact fb2 j hj) (frh5) (ff29h5) (by omega)
            · refine z_iload_n (pc := 58) dX7_hoursAsked_58 rfl 4 rfl ?_
              refine z_iconst (pc := 59) (v := 1) dX7_hoursAsked_59 rfl ?_
              refine z_iadd (pc := 60) dX7_hoursAsked_60 (fun v18 ev18 => ?_)
              refine z_goto (pc := 61) (tgt := 65) dX7_hoursAsked_61 (by decide) ?_
              refine z_istore_n (pc := 65) (lv' := [(3, AI v18), (2, AI v14), (6, AI v4), (5, AI h), (4, AI lon), (0, AR 1), (1, AI b)]) dX7_hoursAsked_65 rfl (by decide) rfl ?_
              refine z_iload (pc := 66) dX7_hoursAsked_66 4 rfl ?_
              refine z_iload_n (pc := 68) dX7_hoursAsked_68 rfl 0 rfl ?_
              refine z_mmax (pc := 69) (stk := []) ⟨by omega, by omega⟩ ⟨by omega, by omega⟩ (List.mem_cons_of_mem _ (iw34 _ (List.mem_of_getElem? (i := 1) rfl))) (List.mem_cons_of_mem _ (iw18 _ (List.mem_of_getElem? (i := 12) rfl))) (List.mem_cons_of_mem _ (iw8 _ (List.mem_of_getElem? (i := 4) rfl))) (List.mem_cons_of_mem _ (iw18 _ (List.mem_of_getElem? (i := 13) rfl))) (Nat.le_of_ble_eq_true rfl) (Nat.le_of_ble_eq_true rfl) dX7_hoursAsked_69 (fun v19 ev19 => ?_)
              refine z_istore (pc := 72) (lv' := [(4, AI v19), (3, AI v18), (2, AI v14), (6, AI v4), (5, AI h), (0, AR 1), (1, AI b)]) dX7_hoursAsked_72 (by decide) rfl ?_
              refine z_iinc (pc := 74) (j := 4) (w := fun q => (5, AI q) :: [(4, AI v19), (3, AI v18), (2, AI v14), (6, AI v4), (0, AR 1), (1, AI b)]) dX7_hoursAsked_74 rfl (by decide) (fun _ => rfl) (fun v20 ev20 => ?_)
              refine z_goto (pc := 77) (tgt := 10) dX7_hoursAsked_77 (by decide) ?_
              refine z_sub (lv' := [(5, AI v20), (4, AI v19), (3, AI v18), (2, AI v14), (0, AR 1), (1, AI b)]) [0, 1, 2, 3, 5, 6] rfl ?_
              exact ih10 v14 v18 v19 v20 h5 (by omega) (by first | (exfalso; omega) | exact sm_step (g := (fun h => if g (hourF (hi 2) (hi 2 1) h) = 1 then 1 else 0)) (by omega) (by omega) i1 (by (repeat (first | rw [if_pos (by omega)] | rw [if_neg (by omega)])); first | done | omega)) (by first | (exfalso; omega) | exact rwL_step (by omega) (by omega) i1b (by (repeat (first | rw [if_pos (by omega)] | rw [if_neg (by omega)])); first | done | omega) (by split <;> omega)) (TE.of th5) (fun j hj => by rw [(by rw [(eh5.1 36 (by decide) : h5 36 = h3 36)] : h5 36 = h3 36)]; exact fb2 j hj) (frh5) (ff29h5) (by omega)
  exact J10 _ 0 0 0 0 hi (by omega) (sm_0 rfl rfl) (rfl) (t0) (fb) ((Fr.rf)) ((FF.rf)) (Nat.lt_succ_self _)

theorem val_fin {hi h2 : HI} {S P V : Nat → Int} {m c : Nat} {f v : Int} {oh : Int} (h2' : ¬ S c = 2) (hf : f = FIq oh (S c)) (hv : v = hi 36 f.toNat) (h0 : 0 ≤ f) (hph : ∀ j : Nat, j < 6 → -4000 ≤ hi 36 j ∧ hi 36 j ≤ 4000) (hb : FIq oh (S c) < 6) (qd : ∀ {g : Ex}, valF oh S P V c = .inr g → QD oh g) {R : Prop} (t : TS h2 S P V m (c + 1)) : (∃ g, v = g (hi 36) ∧ valF oh S P V c = .inr g ∧ TS h2 S P V m (c + 1) ∧ (-4000 ≤ v ∧ v ≤ 4000) ∧ QD oh g) ∨ R := by
  have e : valF oh S P V c = .inr (fun φ => φ (FIq oh (S c)).toNat) := by unfold valF; rw [if_neg h2', if_pos (by omega)]
  subst hf
  refine Or.inl ⟨_, hv, e, t, ?_, qd e⟩
  rw [hv]; exact hph _ (by omega)
theorem smR_inP {oh : Int} {S P V : Nat → Int} {n c : Nat} {g h : Ex} (hn : 0 < n) (hs : S c = 4) (hv : valF oh S P V (c + 1) = .inr h) : smR oh S P V n c g = smR oh S P V (n - 1) (c + 1 + 1) (bin 2 g h) := by
  have q := smR_in (g := g) hn (Or.inl hs) hv
  rwa [if_pos hs] at q
theorem smR_inM {oh : Int} {S P V : Nat → Int} {n c : Nat} {g h : Ex} (hn : 0 < n) (hs : S c = 5) (hv : valF oh S P V (c + 1) = .inr h) : smR oh S P V n c g = smR oh S P V (n - 1) (c + 1 + 1) (bin 3 g h) := by
  have q := smR_in (g := g) hn (Or.inr hs) hv
  rwa [if_neg (by omega)] at q

abbrev kX4_value : Kd := (cX4_value, .code yX4_value cX4_value 3 (some .int) :: wsL_law0, rmL 2, RX4, (some .int), 3)
theorem ct_X4_value_TS : Ct kX4_value yX4_value (fun a hi Q => ∃ S : Nat → Int, ∃ P : Nat → Int, ∃ V : Nat → Int, ∃ m : Nat, ∃ c : Nat, a = [AR 36] ∧ ((TS hi S P V m c) ∧ ((hi 35 3 = 0 ∨ hi 35 3 = 1) ∧ (∀ j : Nat, j < 6 → -4000 ≤ hi 36 j ∧ hi 36 j ≤ 4000) ∧ (∀ i : Nat, i ≤ m → S i = 2 → 0 ≤ V i ∧ V i ≤ 999))) ∧ ∀ (v : Int) (h2 : HI), (Fr [29] hi h2 ∧ FF 29 [6, 7, 8] hi h2 ∧ ((∃ g, v = g (hi 36) ∧ valF (hi 35 3) S P V c = .inr g ∧ TS h2 S P V m (c + 1) ∧ (-4000 ≤ v ∧ v ≤ 4000) ∧ QD (hi 35 3) g) ∨ (v = 0 ∧ valF (hi 35 3) S P V c = .inl (P c) ∧ TF h2 S P V m 1 (P c)))) → Q (AI v) h2) := by
  refine Ct.of (ws' := _) (by decide +kernel) rfl rfl ?_
  intro a hi Q hT
  obtain ⟨S, P, V, m, c, rfl, hpre, hQ⟩ := hT
  refine ⟨Nat.le_of_ble_eq_true rfl, ?_⟩
  show Z kX4_value Q 0 [(0, AR 36)] [] hi
  have t0 := hpre.1
  have hoh := hpre.2
  obtain ⟨ho, hph, hV⟩ := hoh
  have cm := t0.2.1
  have mb := t0.1.2.1
  refine z_aload_n (pc := 0) (x := 36) dX4_value_0 rfl 0 rfl ?_
  refine z_getR (pc := 1) (pl := 35) (f := 0) (ci := 4) (C := RX4) (T := TX4) (N := 5) hu_X4 (by decide) rfl rfl (by decide) rfl (List.mem_cons_of_mem _ (iw4 _ (List.mem_of_getElem? (i := 19) rfl))) rfl dX4_value_1 ?_
  refine z_callV (pc := 4) (kc := kX6_sign) (n := 0) (pl := 29) (ci := 5) (C := RX6) (As := []) (stk := []) ct_X6_sign_TS (gdV rfl rfl (iw31 _ (List.mem_of_getElem? (i := 23) rfl)) (iw22 _ (List.mem_of_getElem? (i := 10) rfl)) (iw22 _ (List.mem_of_getElem? (i := 11) rfl)) (iw2 _ (List.mem_of_getElem? (i := 4) rfl)) (iw22 _ (List.mem_of_getElem? (i := 12) rfl))) rfl ⟨rfl, rfl⟩ (by decide +kernel) ⟨by decide, by decide⟩ (by decide) rfl rfl dX4_value_4 rfl rfl (Nat.le_of_ble_eq_true rfl) ?_
  refine ⟨S, P, V, m, c, rfl, t0, fun v1 ev1 => ?_⟩
  have sb := ev1.2
  have fb := FI_bd ho (s := S c) (by omega) (by omega)
  refine z_astore_n (pc := 7) (lv' := [(1, AR (ec v1)), (0, AR 36)]) dX4_value_7 rfl (by decide) (by unfold ec; split <;> omega) rfl ?_
  refine z_aload_n (pc := 8) (x := (ec v1)) dX4_value_8 rfl 0 rfl ?_
  refine z_ifnonnullE (pc := 9) (tgt := 14) dX4_value_9 (by decide) (by omega) ?_
  refine z_aload_n (pc := 14) (x := (ec v1)) dX4_value_14 rfl 0 rfl ?_
  refine z_getstE (pc := 15) (i := 2) (z := 2) (by decide) rfl (List.mem_cons_of_mem _ (iw33 _ (List.mem_of_getElem? (i := 14) rfl))) dX4_value_15 ?_
  refine z_acmp_ne (pc := 18) (tgt := 29) dX4_value_18 (by decide) (by omega) (by omega) (fun c2 => ?_) (fun c2 => ?_)
  · refine z_aload_n (pc := 29) (x := 36) dX4_value_29 rfl 1 rfl ?_
    refine z_getI (pc := 30) (pl := 35) (f := 3) (ci := 4) (C := RX4) (T := TX4) (N := 5) hu_X4 (by decide) rfl rfl (by decide) rfl (List.mem_cons_of_mem _ (iw4 _ (List.mem_of_getElem? (i := 17) rfl))) rfl (by decide) dX4_value_30 (fun v3 ev3 rv3 => ?_)
    refine z_if_eq (pc := 33) (tgt := 43) dX4_value_33 (by decide) ⟨by omega, by omega⟩ (fun c4 => ?_) (fun c4 => ?_)
    · refine z_aload_n (pc := 43) (x := (ec v1)) dX4_value_43 rfl 0 rfl ?_
      refine z_getLF (pc := 44) (by omega) (List.mem_cons_of_mem _ (iw33 _ (List.mem_of_getElem? (i := 16) rfl))) dX4_value_44 (fun v5 ev5 => ?_)
      have qv5 : v5 = FIq (hi 35 3) (S c) := by rw [ev5, (ev1).1]; unfold FIq; first | rw [if_pos (by omega)] | rw [if_neg (by omega)]
      refine z_istore_n (pc := 47) (lv' := [(2, AI v5), (1, AR (ec v1)), (0, AR 36)]) dX4_value_47 rfl (by decide) rfl ?_
      refine z_iload_n (pc := 48) dX4_value_48 rfl 0 rfl ?_
      refine z_if_lt (pc := 49) (tgt := 58) dX4_value_49 (by decide) ⟨by omega, by omega⟩ (fun c6 => ?_) (fun c6 => ?_)
      · refine z_aload_n (pc := 58) (x := 36) dX4_value_58 rfl 2 rfl ?_
        refine z_getR (pc := 59) (pl := 35) (f := 0) (ci := 4) (C := RX4) (T := TX4) (N := 5) hu_X4 (by decide) rfl rfl (by decide) rfl (List.mem_cons_of_mem _ (iw4 _ (List.mem_of_getElem? (i := 19) rfl))) rfl dX4_value_59 ?_
        refine z_iconst (pc := 62) (v := 1) dX4_value_62 rfl ?_
        refine z_callV (pc := 63) (kc := kX6_fail) (n := 1) (pl := 29) (ci := 5) (C := RX6) (As := [AI 1]) (stk := []) ct_X6_fail_TS (gdV rfl rfl (iw32 _ (List.mem_of_getElem? (i := 0) rfl)) (iw23 _ (List.mem_of_getElem? (i := 13) rfl)) (iw23 _ (List.mem_of_getElem? (i := 14) rfl)) (iw2 _ (List.mem_of_getElem? (i := 4) rfl)) (iw23 _ (List.mem_of_getElem? (i := 15) rfl))) rfl ⟨rfl, rfl⟩ (by decide +kernel) ⟨by decide, by decide⟩ (by decide) rfl rfl dX4_value_63 rfl rfl (Nat.le_of_ble_eq_true rfl) ?_
        refine ⟨_, S, P, V, m, c, rfl, ⟨t0, ⟨by decide, by decide⟩, by decide⟩, fun h7 eh7 => ?_⟩
        have frh7 : Fr [29] hi h7 := (Fr.call (Fr.rf) eh7.1 (by decide))
        have ff29h7 : FF 29 [6, 7, 8] hi h7 := FF.call (FF.rf) (eh7.2.1) (by decide)
        have eph7 := eh7.2.2
        replace eh7 := And.intro eh7.1 (And.intro eh7.2.1 trivial)
        have th7 := eph7
        refine z_iconst (pc := 66) (v := 0) dX4_value_66 rfl ?_
        refine z_iret (pc := 67) rfl dX4_value_67 ?_
        exact hQ 0 h7 ⟨frh7, ff29h7, by first | (exfalso; omega) | exact Or.inl ⟨fun _ => V c, by omega, by unfold valF; rw [if_pos (by omega)], th7, by have := hV c cm (by omega); omega, fun _ _ _ => rfl⟩ | exact Or.inr ⟨rfl, by unfold valF; rw [if_neg (by omega), if_neg (by omega)], th7⟩ | exact val_fin (by omega) (by omega) w81 (by omega) hph (by have := FI_bd ho (s := S c) (by omega) (by omega); omega) (valF_qd ho (by omega)) th7⟩
      · refine z_iload_n (pc := 52) dX4_value_52 rfl 0 rfl ?_
        refine z_bipush (pc := 53) (v := 6) dX4_value_53 (by decide +kernel) ?_
        refine z_icmp_lt (pc := 55) (tgt := 68) dX4_value_55 (by decide) ⟨by omega, by omega⟩ ⟨by decide, by decide⟩ (fun c8 => ?_) (fun c8 => ?_)
        · refine z_aload_n (pc := 68) (x := 36) dX4_value_68 rfl 2 rfl ?_
          refine z_getR (pc := 69) (pl := 35) (f := 0) (ci := 4) (C := RX4) (T := TX4) (N := 5) hu_X4 (by decide) rfl rfl (by decide) rfl (List.mem_cons_of_mem _ (iw4 _ (List.mem_of_getElem? (i := 19) rfl))) rfl dX4_value_69 ?_
          refine z_callV (pc := 72) (kc := kX6_pass) (n := 0) (pl := 29) (ci := 5) (C := RX6) (As := []) (stk := []) ct_X6_pass_TS (gdV rfl rfl (iw32 _ (List.mem_of_getElem? (i := 1) rfl)) (iw23 _ (List.mem_of_getElem? (i := 5) rfl)) (iw23 _ (List.mem_of_getElem? (i := 6) rfl)) (iw2 _ (List.mem_of_getElem? (i := 4) rfl)) (iw23 _ (List.mem_of_getElem? (i := 7) rfl))) rfl ⟨rfl, rfl⟩ (by decide +kernel) ⟨by decide, by decide⟩ (by decide) rfl rfl dX4_value_72 rfl rfl (Nat.le_of_ble_eq_true rfl) ?_
          refine ⟨S, P, V, m, c, rfl, ⟨t0, by omega⟩, fun v9 h10 eh10 => ?_⟩
          have frh10 : Fr [29] hi h10 := (Fr.call (Fr.rf) eh10.1 (by decide))
          have ff29h10 : FF 29 [6, 7, 8] hi h10 := FF.call (FF.rf) (eh10.2.1) (by decide)
          have eph10 := eh10.2.2
          replace eh10 := And.intro eh10.1 (And.intro eh10.2.1 trivial)
          obtain ⟨gh10, th10⟩ := eph10
          refine z_pop (pc := 75) dX4_value_75 rfl ?_
          refine z_aload_n (pc := 76) (x := 36) dX4_value_76 rfl 2 rfl ?_
          refine z_getR (pc := 77) (pl := 35) (f := 1) (ci := 4) (C := RX4) (T := TX4) (N := 5) hu_X4 (by decide) rfl rfl (by decide) rfl (List.mem_cons_of_mem _ (iw4 _ (List.mem_of_getElem? (i := 14) rfl))) rfl dX4_value_77 ?_
          refine z_iload_n (pc := 80) dX4_value_80 rfl 0 rfl ?_
          refine z_iald (pc := 81) (pl := 36) (by decide) rfl (by decide) (by decide) (by omega) (by omega) dX4_value_81 (fun v11 ev11 rv11 => ?_)
          rw [(eh10.1 36 (by decide) : h10 36 = hi 36)] at ev11
          have w81 := ev11
          refine z_iret (pc := 82) rfl dX4_value_82 ?_
          exact hQ v11 h10 ⟨frh10, ff29h10, by first | (exfalso; omega) | exact Or.inl ⟨fun _ => V c, by omega, by unfold valF; rw [if_pos (by omega)], th10, by have := hV c cm (by omega); omega, fun _ _ _ => rfl⟩ | exact Or.inr ⟨rfl, by unfold valF; rw [if_neg (by omega), if_neg (by omega)], th10⟩ | exact val_fin (by omega) (by omega) w81 (by omega) hph (by have := FI_bd ho (s := S c) (by omega) (by omega); omega) (valF_qd ho (by omega)) th10⟩
        · refine z_aload_n (pc := 58) (x := 36) dX4_value_58 rfl 2 rfl ?_
          refine z_getR (pc := 59) (pl := 35) (f := 0) (ci := 4) (C := RX4) (T := TX4) (N := 5) hu_X4 (by decide) rfl rfl (by decide) rfl (List.mem_cons_of_mem _ (iw4 _ (List.mem_of_getElem? (i := 19) rfl))) rfl dX4_value_59 ?_
          refine z_iconst (pc := 62) (v := 1) dX4_value_62 rfl ?_
          refine z_callV (pc := 63) (kc := kX6_fail) (n := 1) (pl := 29) (ci := 5) (C := RX6) (As := [AI 1]) (stk := []) ct_X6_fail_TS (gdV rfl rfl (iw32 _ (List.mem_of_getElem? (i := 0) rfl)) (iw23 _ (List.mem_of_getElem? (i := 13) rfl)) (iw23 _ (List.mem_of_getElem? (i := 14) rfl)) (iw2 _ (List.mem_of_getElem? (i := 4) rfl)) (iw23 _ (List.mem_of_getElem? (i := 15) rfl))) rfl ⟨rfl, rfl⟩ (by decide +kernel) ⟨by decide, by decide⟩ (by decide) rfl rfl dX4_value_63 rfl rfl (Nat.le_of_ble_eq_true rfl) ?_
          refine ⟨_, S, P, V, m, c, rfl, ⟨t0, ⟨by decide, by decide⟩, by decide⟩, fun h12 eh12 => ?_⟩
          have frh12 : Fr [29] hi h12 := (Fr.call (Fr.rf) eh12.1 (by decide))
          have ff29h12 : FF 29 [6, 7, 8] hi h12 := FF.call (FF.rf) (eh12.2.1) (by decide)
          have eph12 := eh12.2.2
          replace eh12 := And.intro eh12.1 (And.intro eh12.2.1 trivial)
          have th12 := eph12
          refine z_iconst (pc := 66) (v := 0) dX4_value_66 rfl ?_
          refine z_iret (pc := 67) rfl dX4_value_67 ?_
          exact hQ 0 h12 ⟨frh12, ff29h12, by first | (exfalso; omega) | exact Or.inl ⟨fun _ => V c, by omega, by unfold valF; rw [if_pos (by omega)], th12, by have := hV c cm (by omega); omega, fun _ _ _ => rfl⟩ | exact Or.inr ⟨rfl, by unfold valF; rw [if_neg (by omega), if_neg (by omega)], th12⟩ | exact val_fin (by omega) (by omega) w81 (by omega) hph (by have := FI_bd ho (s := S c) (by omega) (by omega); omega) (valF_qd ho (by omega)) th12⟩
    · refine z_aload_n (pc := 36) (x := (ec v1)) dX4_value_36 rfl 0 rfl ?_
      refine z_getHF (pc := 37) (by omega) (List.mem_cons_of_mem _ (iw33 _ (List.mem_of_getElem? (i := 15) rfl))) dX4_value_37 (fun v13 ev13 => ?_)
      have qv13 : v13 = FIq (hi 35 3) (S c) := by rw [ev13, (ev1).1]; unfold FIq; first | rw [if_pos (by omega)] | rw [if_neg (by omega)]
      refine z_goto (pc := 40) (tgt := 47) dX4_value_40 (by decide) ?_
      refine z_istore_n (pc := 47) (lv' := [(2, AI v13), (1, AR (ec v1)), (0, AR 36)]) dX4_value_47 rfl (by decide) rfl ?_
      refine z_iload_n (pc := 48) dX4_value_48 rfl 0 rfl ?_
      refine z_if_lt (pc := 49) (tgt := 58) dX4_value_49 (by decide) ⟨by omega, by omega⟩ (fun c14 => ?_) (fun c14 => ?_)
      · refine z_aload_n (pc := 58) (x := 36) dX4_value_58 rfl 2 rfl ?_
        refine z_getR (pc := 59) (pl := 35) (f := 0) (ci := 4) (C := RX4) (T := TX4) (N := 5) hu_X4 (by decide) rfl rfl (by decide) rfl (List.mem_cons_of_mem _ (iw4 _ (List.mem_of_getElem? (i := 19) rfl))) rfl dX4_value_59 ?_
        refine z_iconst (pc := 62) (v := 1) dX4_value_62 rfl ?_
        refine z_callV (pc := 63) (kc := kX6_fail) (n := 1) (pl := 29) (ci := 5) (C := RX6) (As := [AI 1]) (stk := []) ct_X6_fail_TS (gdV rfl rfl (iw32 _ (List.mem_of_getElem? (i := 0) rfl)) (iw23 _ (List.mem_of_getElem? (i := 13) rfl)) (iw23 _ (List.mem_of_getElem? (i := 14) rfl)) (iw2 _ (List.mem_of_getElem? (i := 4) rfl)) (iw23 _ (List.mem_of_getElem? (i := 15) rfl))) rfl ⟨rfl, rfl⟩ (by decide +kernel) ⟨by decide, by decide⟩ (by decide) rfl rfl dX4_value_63 rfl rfl (Nat.le_of_ble_eq_true rfl) ?_
        refine ⟨_, S, P, V, m, c, rfl, ⟨t0, ⟨by decide, by decide⟩, by decide⟩, fun h15 eh15 => ?_⟩
        have frh15 : Fr [29] hi h15 := (Fr.call (Fr.rf) eh15.1 (by decide))
        have ff29h15 : FF 29 [6, 7, 8] hi h15 := FF.call (FF.rf) (eh15.2.1) (by decide)
        have eph15 := eh15.2.2
        replace eh15 := And.intro eh15.1 (And.intro eh15.2.1 trivial)
        have th15 := eph15
        refine z_iconst (pc := 66) (v := 0) dX4_value_66 rfl ?_
        refine z_iret (pc := 67) rfl dX4_value_67 ?_
        exact hQ 0 h15 ⟨frh15, ff29h15, by first | (exfalso; omega) | exact Or.inl ⟨fun _ => V c, by omega, by unfold valF; rw [if_pos (by omega)], th15, by have := hV c cm (by omega); omega, fun _ _ _ => rfl⟩ | exact Or.inr ⟨rfl, by unfold valF; rw [if_neg (by omega), if_neg (by omega)], th15⟩ | exact val_fin (by omega) (by omega) w81 (by omega) hph (by have := FI_bd ho (s := S c) (by omega) (by omega); omega) (valF_qd ho (by omega)) th15⟩
      · refine z_iload_n (pc := 52) dX4_value_52 rfl 0 rfl ?_
        refine z_bipush (pc := 53) (v := 6) dX4_value_53 (by decide +kernel) ?_
        refine z_icmp_lt (pc := 55) (tgt := 68) dX4_value_55 (by decide) ⟨by omega, by omega⟩ ⟨by decide, by decide⟩ (fun c16 => ?_) (fun c16 => ?_)
        · refine z_aload_n (pc := 68) (x := 36) dX4_value_68 rfl 2 rfl ?_
          refine z_getR (pc := 69) (pl := 35) (f := 0) (ci := 4) (C := RX4) (T := TX4) (N := 5) hu_X4 (by decide) rfl rfl (by decide) rfl (List.mem_cons_of_mem _ (iw4 _ (List.mem_of_getElem? (i := 19) rfl))) rfl dX4_value_69 ?_
          refine z_callV (pc := 72) (kc := kX6_pass) (n := 0) (pl := 29) (ci := 5) (C := RX6) (As := []) (stk := []) ct_X6_pass_TS (gdV rfl rfl (iw32 _ (List.mem_of_getElem? (i := 1) rfl)) (iw23 _ (List.mem_of_getElem? (i := 5) rfl)) (iw23 _ (List.mem_of_getElem? (i := 6) rfl)) (iw2 _ (List.mem_of_getElem? (i := 4) rfl)) (iw23 _ (List.mem_of_getElem? (i := 7) rfl))) rfl ⟨rfl, rfl⟩ (by decide +kernel) ⟨by decide, by decide⟩ (by decide) rfl rfl dX4_value_72 rfl rfl (Nat.le_of_ble_eq_true rfl) ?_
          refine ⟨S, P, V, m, c, rfl, ⟨t0, by omega⟩, fun v17 h18 eh18 => ?_⟩
          have frh18 : Fr [29] hi h18 := (Fr.call (Fr.rf) eh18.1 (by decide))
          have ff29h18 : FF 29 [6, 7, 8] hi h18 := FF.call (FF.rf) (eh18.2.1) (by decide)
          have eph18 := eh18.2.2
          replace eh18 := And.intro eh18.1 (And.intro eh18.2.1 trivial)
          obtain ⟨gh18, th18⟩ := eph18
          refine z_pop (pc := 75) dX4_value_75 rfl ?_
          refine z_aload_n (pc := 76) (x := 36) dX4_value_76 rfl 2 rfl ?_
          refine z_getR (pc := 77) (pl := 35) (f := 1) (ci := 4) (C := RX4) (T := TX4) (N := 5) hu_X4 (by decide) rfl rfl (by decide) rfl (List.mem_cons_of_mem _ (iw4 _ (List.mem_of_getElem? (i := 14) rfl))) rfl dX4_value_77 ?_
          refine z_iload_n (pc := 80) dX4_value_80 rfl 0 rfl ?_
          refine z_iald (pc := 81) (pl := 36) (by decide) rfl (by decide) (by decide) (by omega) (by omega) dX4_value_81 (fun v19 ev19 rv19 => ?_)
          rw [(eh18.1 36 (by decide) : h18 36 = hi 36)] at ev19
          have w81 := ev19
          refine z_iret (pc := 82) rfl dX4_value_82 ?_
          exact hQ v19 h18 ⟨frh18, ff29h18, by first | (exfalso; omega) | exact Or.inl ⟨fun _ => V c, by omega, by unfold valF; rw [if_pos (by omega)], th18, by have := hV c cm (by omega); omega, fun _ _ _ => rfl⟩ | exact Or.inr ⟨rfl, by unfold valF; rw [if_neg (by omega), if_neg (by omega)], th18⟩ | exact val_fin (by omega) (by omega) w81 (by omega) hph (by have := FI_bd ho (s := S c) (by omega) (by omega); omega) (valF_qd ho (by omega)) th18⟩
        · refine z_aload_n (pc := 58) (x := 36) dX4_value_58 rfl 2 rfl ?_
          refine z_getR (pc := 59) (pl := 35) (f := 0) (ci := 4) (C := RX4) (T := TX4) (N := 5) hu_X4 (by decide) rfl rfl (by decide) rfl (List.mem_cons_of_mem _ (iw4 _ (List.mem_of_getElem? (i := 19) rfl))) rfl dX4_value_59 ?_
          refine z_iconst (pc := 62) (v := 1) dX4_value_62 rfl ?_
          refine z_callV (pc := 63) (kc := kX6_fail) (n := 1) (pl := 29) (ci := 5) (C := RX6) (As := [AI 1]) (stk := []) ct_X6_fail_TS (gdV rfl rfl (iw32 _ (List.mem_of_getElem? (i := 0) rfl)) (iw23 _ (List.mem_of_getElem? (i := 13) rfl)) (iw23 _ (List.mem_of_getElem? (i := 14) rfl)) (iw2 _ (List.mem_of_getElem? (i := 4) rfl)) (iw23 _ (List.mem_of_getElem? (i := 15) rfl))) rfl ⟨rfl, rfl⟩ (by decide +kernel) ⟨by decide, by decide⟩ (by decide) rfl rfl dX4_value_63 rfl rfl (Nat.le_of_ble_eq_true rfl) ?_
          refine ⟨_, S, P, V, m, c, rfl, ⟨t0, ⟨by decide, by decide⟩, by decide⟩, fun h20 eh20 => ?_⟩
          have frh20 : Fr [29] hi h20 := (Fr.call (Fr.rf) eh20.1 (by decide))
          have ff29h20 : FF 29 [6, 7, 8] hi h20 := FF.call (FF.rf) (eh20.2.1) (by decide)
          have eph20 := eh20.2.2
          replace eh20 := And.intro eh20.1 (And.intro eh20.2.1 trivial)
          have th20 := eph20
          refine z_iconst (pc := 66) (v := 0) dX4_value_66 rfl ?_
          refine z_iret (pc := 67) rfl dX4_value_67 ?_
          exact hQ 0 h20 ⟨frh20, ff29h20, by first | (exfalso; omega) | exact Or.inl ⟨fun _ => V c, by omega, by unfold valF; rw [if_pos (by omega)], th20, by have := hV c cm (by omega); omega, fun _ _ _ => rfl⟩ | exact Or.inr ⟨rfl, by unfold valF; rw [if_neg (by omega), if_neg (by omega)], th20⟩ | exact val_fin (by omega) (by omega) w81 (by omega) hph (by have := FI_bd ho (s := S c) (by omega) (by omega); omega) (valF_qd ho (by omega)) th20⟩
  · refine z_aload_n (pc := 21) (x := 36) dX4_value_21 rfl 1 rfl ?_
    refine z_getR (pc := 22) (pl := 35) (f := 0) (ci := 4) (C := RX4) (T := TX4) (N := 5) hu_X4 (by decide) rfl rfl (by decide) rfl (List.mem_cons_of_mem _ (iw4 _ (List.mem_of_getElem? (i := 19) rfl))) rfl dX4_value_22 ?_
    refine z_callV (pc := 25) (kc := kX6_pass) (n := 0) (pl := 29) (ci := 5) (C := RX6) (As := []) (stk := []) ct_X6_pass_TS (gdV rfl rfl (iw32 _ (List.mem_of_getElem? (i := 1) rfl)) (iw23 _ (List.mem_of_getElem? (i := 5) rfl)) (iw23 _ (List.mem_of_getElem? (i := 6) rfl)) (iw2 _ (List.mem_of_getElem? (i := 4) rfl)) (iw23 _ (List.mem_of_getElem? (i := 7) rfl))) rfl ⟨rfl, rfl⟩ (by decide +kernel) ⟨by decide, by decide⟩ (by decide) rfl rfl dX4_value_25 rfl rfl (Nat.le_of_ble_eq_true rfl) ?_
    refine ⟨S, P, V, m, c, rfl, ⟨t0, by omega⟩, fun v21 h22 eh22 => ?_⟩
    have frh22 : Fr [29] hi h22 := (Fr.call (Fr.rf) eh22.1 (by decide))
    have ff29h22 : FF 29 [6, 7, 8] hi h22 := FF.call (FF.rf) (eh22.2.1) (by decide)
    have eph22 := eh22.2.2
    replace eh22 := And.intro eh22.1 (And.intro eh22.2.1 trivial)
    obtain ⟨gh22, th22⟩ := eph22
    refine z_iret (pc := 28) rfl dX4_value_28 ?_
    exact hQ v21 h22 ⟨frh22, ff29h22, by first | (exfalso; omega) | exact Or.inl ⟨fun _ => V c, by omega, by unfold valF; rw [if_pos (by omega)], th22, by have := hV c cm (by omega); omega, fun _ _ _ => rfl⟩ | exact Or.inr ⟨rfl, by unfold valF; rw [if_neg (by omega), if_neg (by omega)], th22⟩ | exact val_fin (by omega) (by omega) w81 (by omega) hph (by have := FI_bd ho (s := S c) (by omega) (by omega); omega) (valF_qd ho (by omega)) th22⟩

theorem ct_X4_value_TF : Ct kX4_value yX4_value (fun a hi Q => ∃ S : Nat → Int, ∃ P : Nat → Int, ∃ V : Nat → Int, ∃ m : Nat, ∃ k : Int, ∃ p : Int, a = [AR 36] ∧ ((TF hi S P V m k p) ∧ True) ∧ ∀ (v : Int) (h2 : HI), (Fr [29] hi h2 ∧ FF 29 [6, 7, 8] hi h2 ∧ (v = 0 ∧ TF h2 S P V m k p)) → Q (AI v) h2) := by
  refine Ct.of (ws' := _) (by decide +kernel) rfl rfl ?_
  intro a hi Q hT
  obtain ⟨S, P, V, m, k, p, rfl, hpre, hQ⟩ := hT
  refine ⟨Nat.le_of_ble_eq_true rfl, ?_⟩
  show Z kX4_value Q 0 [(0, AR 36)] [] hi
  have t0 := hpre.1
  refine z_aload_n (pc := 0) (x := 36) dX4_value_0 rfl 0 rfl ?_
  refine z_getR (pc := 1) (pl := 35) (f := 0) (ci := 4) (C := RX4) (T := TX4) (N := 5) hu_X4 (by decide) rfl rfl (by decide) rfl (List.mem_cons_of_mem _ (iw4 _ (List.mem_of_getElem? (i := 19) rfl))) rfl dX4_value_1 ?_
  refine z_callV (pc := 4) (kc := kX6_sign) (n := 0) (pl := 29) (ci := 5) (C := RX6) (As := []) (stk := []) ct_X6_sign_TF (gdV rfl rfl (iw31 _ (List.mem_of_getElem? (i := 23) rfl)) (iw22 _ (List.mem_of_getElem? (i := 10) rfl)) (iw22 _ (List.mem_of_getElem? (i := 11) rfl)) (iw2 _ (List.mem_of_getElem? (i := 4) rfl)) (iw22 _ (List.mem_of_getElem? (i := 12) rfl))) rfl ⟨rfl, rfl⟩ (by decide +kernel) ⟨by decide, by decide⟩ (by decide) rfl rfl dX4_value_4 rfl rfl (Nat.le_of_ble_eq_true rfl) ?_
  refine ⟨S, P, V, m, k, p, rfl, t0, fun v1 ev1 => ?_⟩
  obtain rfl := ev1
  refine z_astore_n (pc := 7) (lv' := [(1, AR (ec 1)), (0, AR 36)]) dX4_value_7 rfl (by decide) (by unfold ec; split <;> omega) rfl ?_
  refine z_aload_n (pc := 8) (x := (ec 1)) dX4_value_8 rfl 0 rfl ?_
  refine z_ifnonnullE (pc := 9) (tgt := 14) dX4_value_9 (by decide) (by omega) ?_
  refine z_aload_n (pc := 14) (x := (ec 1)) dX4_value_14 rfl 0 rfl ?_
  refine z_getstE (pc := 15) (i := 2) (z := 2) (by decide) rfl (List.mem_cons_of_mem _ (iw33 _ (List.mem_of_getElem? (i := 14) rfl))) dX4_value_15 ?_
  refine z_acmp_ne (pc := 18) (tgt := 29) dX4_value_18 (by decide) (by decide) (by decide) (fun _ => ?_) (fun q => absurd q (by decide))
  refine z_aload_n (pc := 29) (x := 36) dX4_value_29 rfl 1 rfl ?_
  refine z_getI (pc := 30) (pl := 35) (f := 3) (ci := 4) (C := RX4) (T := TX4) (N := 5) hu_X4 (by decide) rfl rfl (by decide) rfl (List.mem_cons_of_mem _ (iw4 _ (List.mem_of_getElem? (i := 17) rfl))) rfl (by decide) dX4_value_30 (fun v2 ev2 rv2 => ?_)
  refine z_if_eq (pc := 33) (tgt := 43) dX4_value_33 (by decide) ⟨by omega, by omega⟩ (fun c3 => ?_) (fun c3 => ?_)
  · refine z_aload_n (pc := 43) (x := (ec 1)) dX4_value_43 rfl 0 rfl ?_
    refine z_getLF (pc := 44) (by omega) (List.mem_cons_of_mem _ (iw33 _ (List.mem_of_getElem? (i := 16) rfl))) dX4_value_44 (fun v4 ev4 => ?_)
    have qv4 : v4 = -1 := by rw [ev4]; decide
    refine z_istore_n (pc := 47) (lv' := [(2, AI v4), (1, AR (ec 1)), (0, AR 36)]) dX4_value_47 rfl (by decide) rfl ?_
    refine z_iload_n (pc := 48) dX4_value_48 rfl 0 rfl ?_
    refine z_if_lt (pc := 49) (tgt := 58) dX4_value_49 (by decide) ⟨by omega, by omega⟩ (fun c5 => ?_) (fun c5 => ?_)
    · refine z_aload_n (pc := 58) (x := 36) dX4_value_58 rfl 2 rfl ?_
      refine z_getR (pc := 59) (pl := 35) (f := 0) (ci := 4) (C := RX4) (T := TX4) (N := 5) hu_X4 (by decide) rfl rfl (by decide) rfl (List.mem_cons_of_mem _ (iw4 _ (List.mem_of_getElem? (i := 19) rfl))) rfl dX4_value_59 ?_
      refine z_iconst (pc := 62) (v := 1) dX4_value_62 rfl ?_
      refine z_callV (pc := 63) (kc := kX6_fail) (n := 1) (pl := 29) (ci := 5) (C := RX6) (As := [AI 1]) (stk := []) ct_X6_fail_TF (gdV rfl rfl (iw32 _ (List.mem_of_getElem? (i := 0) rfl)) (iw23 _ (List.mem_of_getElem? (i := 13) rfl)) (iw23 _ (List.mem_of_getElem? (i := 14) rfl)) (iw2 _ (List.mem_of_getElem? (i := 4) rfl)) (iw23 _ (List.mem_of_getElem? (i := 15) rfl))) rfl ⟨rfl, rfl⟩ (by decide +kernel) ⟨by decide, by decide⟩ (by decide) rfl rfl dX4_value_63 rfl rfl (Nat.le_of_ble_eq_true rfl) ?_
      refine ⟨_, S, P, V, m, k, p, rfl, ⟨t0, ⟨by decide, by decide⟩⟩, fun h6 eh6 => ?_⟩
      have frh6 : Fr [29] hi h6 := (Fr.call (Fr.rf) eh6.1 (by decide))
      have ff29h6 : FF 29 [6, 7, 8] hi h6 := FF.call (FF.rf) (eh6.2.1) (by decide)
      have eph6 := eh6.2.2
      replace eh6 := And.intro eh6.1 (And.intro eh6.2.1 trivial)
      have th6 := eph6
      refine z_iconst (pc := 66) (v := 0) dX4_value_66 rfl ?_
      refine z_iret (pc := 67) rfl dX4_value_67 ?_
      exact hQ 0 h6 ⟨frh6, ff29h6, by first | exact ⟨rfl, th6⟩ | (exfalso; omega)⟩
    · refine z_iload_n (pc := 52) dX4_value_52 rfl 0 rfl ?_
      refine z_bipush (pc := 53) (v := 6) dX4_value_53 (by decide +kernel) ?_
      refine z_icmp_lt (pc := 55) (tgt := 68) dX4_value_55 (by decide) ⟨by omega, by omega⟩ ⟨by decide, by decide⟩ (fun c7 => ?_) (fun c7 => ?_)
      · refine z_aload_n (pc := 68) (x := 36) dX4_value_68 rfl 2 rfl ?_
        refine z_getR (pc := 69) (pl := 35) (f := 0) (ci := 4) (C := RX4) (T := TX4) (N := 5) hu_X4 (by decide) rfl rfl (by decide) rfl (List.mem_cons_of_mem _ (iw4 _ (List.mem_of_getElem? (i := 19) rfl))) rfl dX4_value_69 ?_
        refine z_callV (pc := 72) (kc := kX6_pass) (n := 0) (pl := 29) (ci := 5) (C := RX6) (As := []) (stk := []) ct_X6_pass_TF (gdV rfl rfl (iw32 _ (List.mem_of_getElem? (i := 1) rfl)) (iw23 _ (List.mem_of_getElem? (i := 5) rfl)) (iw23 _ (List.mem_of_getElem? (i := 6) rfl)) (iw2 _ (List.mem_of_getElem? (i := 4) rfl)) (iw23 _ (List.mem_of_getElem? (i := 7) rfl))) rfl ⟨rfl, rfl⟩ (by decide +kernel) ⟨by decide, by decide⟩ (by decide) rfl rfl dX4_value_72 rfl rfl (Nat.le_of_ble_eq_true rfl) ?_
        refine ⟨S, P, V, m, k, p, rfl, t0, fun v8 h9 eh9 => ?_⟩
        have frh9 : Fr [29] hi h9 := (Fr.call (Fr.rf) eh9.1 (by decide))
        have ff29h9 : FF 29 [6, 7, 8] hi h9 := FF.call (FF.rf) (eh9.2.1) (by decide)
        have eph9 := eh9.2.2
        replace eh9 := And.intro eh9.1 (And.intro eh9.2.1 trivial)
        have th9 := eph9
        refine z_pop (pc := 75) dX4_value_75 rfl ?_
        refine z_aload_n (pc := 76) (x := 36) dX4_value_76 rfl 2 rfl ?_
        refine z_getR (pc := 77) (pl := 35) (f := 1) (ci := 4) (C := RX4) (T := TX4) (N := 5) hu_X4 (by decide) rfl rfl (by decide) rfl (List.mem_cons_of_mem _ (iw4 _ (List.mem_of_getElem? (i := 14) rfl))) rfl dX4_value_77 ?_
        refine z_iload_n (pc := 80) dX4_value_80 rfl 0 rfl ?_
        refine z_iald (pc := 81) (pl := 36) (by decide) rfl (by decide) (by decide) (by omega) (by omega) dX4_value_81 (fun v10 ev10 rv10 => ?_)
        rw [(eh9.1 36 (by decide) : h9 36 = hi 36)] at ev10
        refine z_iret (pc := 82) rfl dX4_value_82 ?_
        exact hQ v10 h9 ⟨frh9, ff29h9, by first | exact ⟨rfl, th9⟩ | (exfalso; omega)⟩
      · refine z_aload_n (pc := 58) (x := 36) dX4_value_58 rfl 2 rfl ?_
        refine z_getR (pc := 59) (pl := 35) (f := 0) (ci := 4) (C := RX4) (T := TX4) (N := 5) hu_X4 (by decide) rfl rfl (by decide) rfl (List.mem_cons_of_mem _ (iw4 _ (List.mem_of_getElem? (i := 19) rfl))) rfl dX4_value_59 ?_
        refine z_iconst (pc := 62) (v := 1) dX4_value_62 rfl ?_
        refine z_callV (pc := 63) (kc := kX6_fail) (n := 1) (pl := 29) (ci := 5) (C := RX6) (As := [AI 1]) (stk := []) ct_X6_fail_TF (gdV rfl rfl (iw32 _ (List.mem_of_getElem? (i := 0) rfl)) (iw23 _ (List.mem_of_getElem? (i := 13) rfl)) (iw23 _ (List.mem_of_getElem? (i := 14) rfl)) (iw2 _ (List.mem_of_getElem? (i := 4) rfl)) (iw23 _ (List.mem_of_getElem? (i := 15) rfl))) rfl ⟨rfl, rfl⟩ (by decide +kernel) ⟨by decide, by decide⟩ (by decide) rfl rfl dX4_value_63 rfl rfl (Nat.le_of_ble_eq_true rfl) ?_
        refine ⟨_, S, P, V, m, k, p, rfl, ⟨t0, ⟨by decide, by decide⟩⟩, fun h11 eh11 => ?_⟩
        have frh11 : Fr [29] hi h11 := (Fr.call (Fr.rf) eh11.1 (by decide))
        have ff29h11 : FF 29 [6, 7, 8] hi h11 := FF.call (FF.rf) (eh11.2.1) (by decide)
        have eph11 := eh11.2.2
        replace eh11 := And.intro eh11.1 (And.intro eh11.2.1 trivial)
        have th11 := eph11
        refine z_iconst (pc := 66) (v := 0) dX4_value_66 rfl ?_
        refine z_iret (pc := 67) rfl dX4_value_67 ?_
        exact hQ 0 h11 ⟨frh11, ff29h11, by first | exact ⟨rfl, th11⟩ | (exfalso; omega)⟩
  · refine z_aload_n (pc := 36) (x := (ec 1)) dX4_value_36 rfl 0 rfl ?_
    refine z_getHF (pc := 37) (by omega) (List.mem_cons_of_mem _ (iw33 _ (List.mem_of_getElem? (i := 15) rfl))) dX4_value_37 (fun v12 ev12 => ?_)
    have qv12 : v12 = -1 := by rw [ev12]; decide
    refine z_goto (pc := 40) (tgt := 47) dX4_value_40 (by decide) ?_
    refine z_istore_n (pc := 47) (lv' := [(2, AI v12), (1, AR (ec 1)), (0, AR 36)]) dX4_value_47 rfl (by decide) rfl ?_
    refine z_iload_n (pc := 48) dX4_value_48 rfl 0 rfl ?_
    refine z_if_lt (pc := 49) (tgt := 58) dX4_value_49 (by decide) ⟨by omega, by omega⟩ (fun c13 => ?_) (fun c13 => ?_)
    · refine z_aload_n (pc := 58) (x := 36) dX4_value_58 rfl 2 rfl ?_
      refine z_getR (pc := 59) (pl := 35) (f := 0) (ci := 4) (C := RX4) (T := TX4) (N := 5) hu_X4 (by decide) rfl rfl (by decide) rfl (List.mem_cons_of_mem _ (iw4 _ (List.mem_of_getElem? (i := 19) rfl))) rfl dX4_value_59 ?_
      refine z_iconst (pc := 62) (v := 1) dX4_value_62 rfl ?_
      refine z_callV (pc := 63) (kc := kX6_fail) (n := 1) (pl := 29) (ci := 5) (C := RX6) (As := [AI 1]) (stk := []) ct_X6_fail_TF (gdV rfl rfl (iw32 _ (List.mem_of_getElem? (i := 0) rfl)) (iw23 _ (List.mem_of_getElem? (i := 13) rfl)) (iw23 _ (List.mem_of_getElem? (i := 14) rfl)) (iw2 _ (List.mem_of_getElem? (i := 4) rfl)) (iw23 _ (List.mem_of_getElem? (i := 15) rfl))) rfl ⟨rfl, rfl⟩ (by decide +kernel) ⟨by decide, by decide⟩ (by decide) rfl rfl dX4_value_63 rfl rfl (Nat.le_of_ble_eq_true rfl) ?_
      refine ⟨_, S, P, V, m, k, p, rfl, ⟨t0, ⟨by decide, by decide⟩⟩, fun h14 eh14 => ?_⟩
      have frh14 : Fr [29] hi h14 := (Fr.call (Fr.rf) eh14.1 (by decide))
      have ff29h14 : FF 29 [6, 7, 8] hi h14 := FF.call (FF.rf) (eh14.2.1) (by decide)
      have eph14 := eh14.2.2
      replace eh14 := And.intro eh14.1 (And.intro eh14.2.1 trivial)
      have th14 := eph14
      refine z_iconst (pc := 66) (v := 0) dX4_value_66 rfl ?_
      refine z_iret (pc := 67) rfl dX4_value_67 ?_
      exact hQ 0 h14 ⟨frh14, ff29h14, by first | exact ⟨rfl, th14⟩ | (exfalso; omega)⟩
    · refine z_iload_n (pc := 52) dX4_value_52 rfl 0 rfl ?_
      refine z_bipush (pc := 53) (v := 6) dX4_value_53 (by decide +kernel) ?_
      refine z_icmp_lt (pc := 55) (tgt := 68) dX4_value_55 (by decide) ⟨by omega, by omega⟩ ⟨by decide, by decide⟩ (fun c15 => ?_) (fun c15 => ?_)
      · refine z_aload_n (pc := 68) (x := 36) dX4_value_68 rfl 2 rfl ?_
        refine z_getR (pc := 69) (pl := 35) (f := 0) (ci := 4) (C := RX4) (T := TX4) (N := 5) hu_X4 (by decide) rfl rfl (by decide) rfl (List.mem_cons_of_mem _ (iw4 _ (List.mem_of_getElem? (i := 19) rfl))) rfl dX4_value_69 ?_
        refine z_callV (pc := 72) (kc := kX6_pass) (n := 0) (pl := 29) (ci := 5) (C := RX6) (As := []) (stk := []) ct_X6_pass_TF (gdV rfl rfl (iw32 _ (List.mem_of_getElem? (i := 1) rfl)) (iw23 _ (List.mem_of_getElem? (i := 5) rfl)) (iw23 _ (List.mem_of_getElem? (i := 6) rfl)) (iw2 _ (List.mem_of_getElem? (i := 4) rfl)) (iw23 _ (List.mem_of_getElem? (i := 7) rfl))) rfl ⟨rfl, rfl⟩ (by decide +kernel) ⟨by decide, by decide⟩ (by decide) rfl rfl dX4_value_72 rfl rfl (Nat.le_of_ble_eq_true rfl) ?_
        refine ⟨S, P, V, m, k, p, rfl, t0, fun v16 h17 eh17 => ?_⟩
        have frh17 : Fr [29] hi h17 := (Fr.call (Fr.rf) eh17.1 (by decide))
        have ff29h17 : FF 29 [6, 7, 8] hi h17 := FF.call (FF.rf) (eh17.2.1) (by decide)
        have eph17 := eh17.2.2
        replace eh17 := And.intro eh17.1 (And.intro eh17.2.1 trivial)
        have th17 := eph17
        refine z_pop (pc := 75) dX4_value_75 rfl ?_
        refine z_aload_n (pc := 76) (x := 36) dX4_value_76 rfl 2 rfl ?_
        refine z_getR (pc := 77) (pl := 35) (f := 1) (ci := 4) (C := RX4) (T := TX4) (N := 5) hu_X4 (by decide) rfl rfl (by decide) rfl (List.mem_cons_of_mem _ (iw4 _ (List.mem_of_getElem? (i := 14) rfl))) rfl dX4_value_77 ?_
        refine z_iload_n (pc := 80) dX4_value_80 rfl 0 rfl ?_
        refine z_iald (pc := 81) (pl := 36) (by decide) rfl (by decide) (by decide) (by omega) (by omega) dX4_value_81 (fun v18 ev18 rv18 => ?_)
        rw [(eh17.1 36 (by decide) : h17 36 = hi 36)] at ev18
        refine z_iret (pc := 82) rfl dX4_value_82 ?_
        exact hQ v18 h17 ⟨frh17, ff29h17, by first | exact ⟨rfl, th17⟩ | (exfalso; omega)⟩
      · refine z_aload_n (pc := 58) (x := 36) dX4_value_58 rfl 2 rfl ?_
        refine z_getR (pc := 59) (pl := 35) (f := 0) (ci := 4) (C := RX4) (T := TX4) (N := 5) hu_X4 (by decide) rfl rfl (by decide) rfl (List.mem_cons_of_mem _ (iw4 _ (List.mem_of_getElem? (i := 19) rfl))) rfl dX4_value_59 ?_
        refine z_iconst (pc := 62) (v := 1) dX4_value_62 rfl ?_
        refine z_callV (pc := 63) (kc := kX6_fail) (n := 1) (pl := 29) (ci := 5) (C := RX6) (As := [AI 1]) (stk := []) ct_X6_fail_TF (gdV rfl rfl (iw32 _ (List.mem_of_getElem? (i := 0) rfl)) (iw23 _ (List.mem_of_getElem? (i := 13) rfl)) (iw23 _ (List.mem_of_getElem? (i := 14) rfl)) (iw2 _ (List.mem_of_getElem? (i := 4) rfl)) (iw23 _ (List.mem_of_getElem? (i := 15) rfl))) rfl ⟨rfl, rfl⟩ (by decide +kernel) ⟨by decide, by decide⟩ (by decide) rfl rfl dX4_value_63 rfl rfl (Nat.le_of_ble_eq_true rfl) ?_
        refine ⟨_, S, P, V, m, k, p, rfl, ⟨t0, ⟨by decide, by decide⟩⟩, fun h19 eh19 => ?_⟩
        have frh19 : Fr [29] hi h19 := (Fr.call (Fr.rf) eh19.1 (by decide))
        have ff29h19 : FF 29 [6, 7, 8] hi h19 := FF.call (FF.rf) (eh19.2.1) (by decide)
        have eph19 := eh19.2.2
        replace eh19 := And.intro eh19.1 (And.intro eh19.2.1 trivial)
        have th19 := eph19
        refine z_iconst (pc := 66) (v := 0) dX4_value_66 rfl ?_
        refine z_iret (pc := 67) rfl dX4_value_67 ?_
        exact hQ 0 h19 ⟨frh19, ff29h19, by first | exact ⟨rfl, th19⟩ | (exfalso; omega)⟩

abbrev kX4_total : Kd := (cX4_total, .code yX4_total cX4_total 3 (some .int) :: wsL_law0, rmL 3, RX4, (some .int), 3)
theorem ct_X4_total_TS : Ct kX4_total yX4_total (fun a hi Q => ∃ S : Nat → Int, ∃ P : Nat → Int, ∃ V : Nat → Int, ∃ m : Nat, ∃ c : Nat, a = [AR 36] ∧ ((TS hi S P V m c) ∧ ((hi 35 3 = 0 ∨ hi 35 3 = 1) ∧ (∀ j : Nat, j < 6 → -4000 ≤ hi 36 j ∧ hi 36 j ≤ 4000) ∧ (∀ i : Nat, i ≤ m → S i = 2 → 0 ≤ V i ∧ V i ≤ 999))) ∧ ∀ (v : Int) (h2 : HI), (Fr [29] hi h2 ∧ FF 29 [6, 7, 8] hi h2 ∧ (((-3000000 ≤ v ∧ v ≤ 3000000)) ∧ ((∃ p, TF h2 S P V m 1 p ∧ sumF (hi 35 3) S P V c = .inl p) ∨ (∃ (c2 : Nat) (g : Ex), TS h2 S P V m c2 ∧ v = g (hi 36) ∧ sumF (hi 35 3) S P V c = .inr (c2, g) ∧ c < c2 ∧ QD (hi 35 3) g)))) → Q (AI v) h2) := by
  refine Ct.of (ws' := _) (by decide +kernel) rfl rfl ?_
  intro a hi Q hT
  obtain ⟨S, P, V, m, c, rfl, hpre, hQ⟩ := hT
  refine ⟨Nat.le_of_ble_eq_true rfl, ?_⟩
  show Z kX4_total Q 0 [(0, AR 36)] [] hi
  have t0 := hpre.1
  have hoh := hpre.2
  obtain ⟨ho, hph, hV⟩ := hoh
  have cm := t0.2.1
  have mb := t0.1.2.1
  refine z_aload_n (pc := 0) (x := 36) dX4_total_0 rfl 0 rfl ?_
  refine z_callV (pc := 1) (kc := kX4_value) (n := 0) (pl := 35) (ci := 4) (C := RX4) (As := []) (stk := []) ct_X4_value_TS (gdV rfl rfl (iw33 _ (List.mem_of_getElem? (i := 10) rfl)) (iw33 _ (List.mem_of_getElem? (i := 11) rfl)) (iw33 _ (List.mem_of_getElem? (i := 12) rfl)) (iw2 _ (List.mem_of_getElem? (i := 12) rfl)) (iw33 _ (List.mem_of_getElem? (i := 13) rfl))) rfl ⟨rfl, rfl⟩ (by decide +kernel) ⟨by decide, by decide⟩ (by decide) rfl rfl dX4_total_1 rfl rfl (Nat.le_of_ble_eq_true rfl) ?_
  refine ⟨S, P, V, m, c, rfl, ⟨t0, ⟨ho, hph, hV⟩⟩, fun v1 h2 eh2 => ?_⟩
  have frh2 : Fr [29] hi h2 := (Fr.call (Fr.rf) eh2.1 (by decide))
  have ff29h2 : FF 29 [6, 7, 8] hi h2 := FF.call (FF.rf) (eh2.2.1) (by decide)
  have eph2 := eh2.2.2
  replace eh2 := And.intro eh2.1 (And.intro eh2.2.1 trivial)
  rcases eph2 with ⟨gh2, geh2, gvh2, th2, gbh2, gdh2⟩ | ⟨rfl, gvh2, th2⟩
  · have gv4 := gvh2
    have ge4 := geh2
    have gd4 := gdh2
    have gb4 := gbh2
    refine z_istore_n (pc := 4) (lv' := [(1, AI v1), (0, AR 36)]) dX4_total_4 rfl (by decide) rfl ?_
    refine z_iconst (pc := 5) (v := 0) dX4_total_5 rfl ?_
    refine z_istore_n (pc := 6) (lv' := [(2, AI 0), (1, AI v1), (0, AR 36)]) dX4_total_6 rfl (by decide) rfl ?_
    have J7 : ∀ (N : Nat) (tot i : Int) (hk : HI), (0 ≤ i ∧ i ≤ 600) → ((∃ (c2 n : Nat) (g : Ex), TS hk S P V m c2 ∧ tot = g (hi 36) ∧ sumF (hi 35 3) S P V c = smR (hi 35 3) S P V n c2 g ∧ (701 ≤ n + c2 ∧ i + 1 ≤ c2 ∧ c < c2 ∧ -(4000 * (c2 : Int)) ≤ tot ∧ tot ≤ 4000 * (c2 : Int)) ∧ QD (hi 35 3) g) ∨ (∃ p, (TF hk S P V m 1 p ∧ sumF (hi 35 3) S P V c = .inl p) ∧ -2500000 ≤ tot ∧ tot ≤ 2500000)) → (Fr [29] hi hk) → (FF 29 [6, 7, 8] hi hk) → ((600 - i).toNat) < N → Z kX4_total Q 7 [(2, AI i), (1, AI tot), (0, AR 36)] [] hk := by
      intro N
      induction N with
      | zero => intro tot i hk _ _ _ _ _; exact absurd (by assumption) (Nat.not_lt_zero _)
      | succ N ih7 =>
        intro tot i hk i0 i1 frlhk ffl29hk hm7
        rcases i1 with ⟨c2, n, g, t1, ge, gs, gb, gd⟩ | ⟨p1, ⟨t1, gs⟩, gb⟩
        · have cb := t1.2.1
          refine z_iload_n (pc := 7) dX4_total_7 rfl 0 rfl ?_
          refine z_sipush (pc := 8) (v := 600) dX4_total_8 (by decide +kernel) ?_
          refine z_icmp_ge (pc := 11) (tgt := 63) dX4_total_11 (by decide) ⟨by omega, by omega⟩ ⟨by decide, by decide⟩ (fun c3 => ?_) (fun c3 => ?_)
          · refine z_iload_n (pc := 63) dX4_total_63 rfl 1 rfl ?_
            refine z_iret (pc := 64) rfl dX4_total_64 ?_
            exact hQ tot hk ⟨frlhk, ffl29hk, by first | exact ⟨by omega, Or.inl ⟨_, t1, gs⟩⟩ | exact ⟨by omega, Or.inr ⟨c2, g, t1, ge, gs.trans (smR_out n (by omega)), by omega, gd⟩⟩ | (exfalso; omega)⟩
          · refine z_aload_n (pc := 14) (x := 36) dX4_total_14 rfl 2 rfl ?_
            refine z_getR (pc := 15) (pl := 35) (f := 0) (ci := 4) (C := RX4) (T := TX4) (N := 5) hu_X4 (by decide) rfl rfl (by decide) rfl (List.mem_cons_of_mem _ (iw4 _ (List.mem_of_getElem? (i := 19) rfl))) rfl dX4_total_15 ?_
            refine z_getstE (pc := 18) (i := 4) (z := 4) (by decide) rfl (List.mem_cons_of_mem _ (iw33 _ (List.mem_of_getElem? (i := 8) rfl))) dX4_total_18 ?_
            refine z_callV (pc := 21) (kc := kX6_takes) (n := 1) (pl := 29) (ci := 5) (C := RX6) (As := [AR (ec 4)]) (stk := []) ct_X6_takes_TS (gdV rfl rfl (iw32 _ (List.mem_of_getElem? (i := 16) rfl)) (iw23 _ (List.mem_of_getElem? (i := 0) rfl)) (iw23 _ (List.mem_of_getElem? (i := 1) rfl)) (iw2 _ (List.mem_of_getElem? (i := 4) rfl)) (iw23 _ (List.mem_of_getElem? (i := 2) rfl))) rfl ⟨rfl, rfl⟩ (by decide +kernel) ⟨by decide, by decide⟩ (by decide) rfl rfl dX4_total_21 rfl rfl (Nat.le_of_ble_eq_true rfl) ?_
            refine ⟨_, S, P, V, m, c2, rfl, ⟨t1, by decide, by decide⟩, fun v4 h5 eh5 => ?_⟩
            have frh5 : Fr [29] hi h5 := (Fr.call frlhk eh5.1 (by decide))
            have ff29h5 : FF 29 [6, 7, 8] hi h5 := FF.call ffl29hk (eh5.2.1) (by decide)
            refine z_if_eq (pc := 24) (tgt := 37) dX4_total_24 (by decide) ⟨by omega, by omega⟩ (fun c6 => ?_) (fun c6 => ?_)
            · obtain ⟨-, sh5, th5⟩ := (eh5.2.2).resolve_left (fun q => absurd q.1 (by omega))
              refine z_aload_n (pc := 37) (x := 36) dX4_total_37 rfl 2 rfl ?_
              refine z_getR (pc := 38) (pl := 35) (f := 0) (ci := 4) (C := RX4) (T := TX4) (N := 5) hu_X4 (by decide) rfl rfl (by decide) rfl (List.mem_cons_of_mem _ (iw4 _ (List.mem_of_getElem? (i := 19) rfl))) rfl dX4_total_38 ?_
              refine z_getstE (pc := 41) (i := 5) (z := 5) (by decide) rfl (List.mem_cons_of_mem _ (iw33 _ (List.mem_of_getElem? (i := 9) rfl))) dX4_total_41 ?_
              refine z_callV (pc := 44) (kc := kX6_takes) (n := 1) (pl := 29) (ci := 5) (C := RX6) (As := [AR (ec 5)]) (stk := []) ct_X6_takes_TS (gdV rfl rfl (iw32 _ (List.mem_of_getElem? (i := 16) rfl)) (iw23 _ (List.mem_of_getElem? (i := 0) rfl)) (iw23 _ (List.mem_of_getElem? (i := 1) rfl)) (iw2 _ (List.mem_of_getElem? (i := 4) rfl)) (iw23 _ (List.mem_of_getElem? (i := 2) rfl))) rfl ⟨rfl, rfl⟩ (by decide +kernel) ⟨by decide, by decide⟩ (by decide) rfl rfl dX4_total_44 rfl rfl (Nat.le_of_ble_eq_true rfl) ?_
              refine ⟨_, S, P, V, m, c2, rfl, ⟨th5, by decide, by decide⟩, fun v7 h8 eh8 => ?_⟩
              have frh8 : Fr [29] hi h8 := (Fr.call frh5 eh8.1 (by decide))
              have ff29h8 : FF 29 [6, 7, 8] hi h8 := FF.call ff29h5 (eh8.2.1) (by decide)
              refine z_if_eq (pc := 47) (tgt := 63) dX4_total_47 (by decide) ⟨by omega, by omega⟩ (fun c9 => ?_) (fun c9 => ?_)
              · obtain ⟨-, sh8, th8⟩ := (eh8.2.2).resolve_left (fun q => absurd q.1 (by omega))
                refine z_iload_n (pc := 63) dX4_total_63 rfl 1 rfl ?_
                refine z_iret (pc := 64) rfl dX4_total_64 ?_
                exact hQ tot h8 ⟨frh8, ff29h8, by first | exact ⟨by omega, Or.inl ⟨_, th8, gs⟩⟩ | exact ⟨by omega, Or.inr ⟨c2, g, th8, ge, gs.trans (smR_out n (by omega)), by omega, gd⟩⟩ | (exfalso; omega)⟩
              · obtain ⟨-, sh8, th8⟩ := (eh8.2.2).resolve_right (fun q => absurd q.1 (by omega))
                refine z_iload_n (pc := 50) dX4_total_50 rfl 1 rfl ?_
                refine z_aload_n (pc := 51) (x := 36) dX4_total_51 rfl 2 rfl ?_
                refine z_callV (pc := 52) (kc := kX4_value) (n := 0) (pl := 35) (ci := 4) (C := RX4) (As := []) (stk := [AI tot]) ct_X4_value_TS (gdV rfl rfl (iw33 _ (List.mem_of_getElem? (i := 10) rfl)) (iw33 _ (List.mem_of_getElem? (i := 11) rfl)) (iw33 _ (List.mem_of_getElem? (i := 12) rfl)) (iw2 _ (List.mem_of_getElem? (i := 12) rfl)) (iw33 _ (List.mem_of_getElem? (i := 13) rfl))) rfl ⟨rfl, rfl⟩ (by decide +kernel) ⟨by decide, by decide⟩ (by decide) rfl rfl dX4_total_52 rfl rfl (Nat.le_of_ble_eq_true rfl) ?_
                refine ⟨S, P, V, m, (c2 + 1), rfl, ⟨th8, by rw [(congrFun (eh8.1 35 (by decide)) 3 : h8 35 3 = h5 35 3), (congrFun (eh5.1 35 (by decide)) 3 : h5 35 3 = hk 35 3), (congrFun (frlhk 35 (by decide)) 3 : hk 35 3 = hi 35 3), (eh8.1 36 (by decide) : h8 36 = h5 36), (eh5.1 36 (by decide) : h5 36 = hk 36), (frlhk 36 (by decide) : hk 36 = hi 36)]; exact ⟨ho, hph, hV⟩⟩, fun v10 h11 eh11 => ?_⟩
                have frh11 : Fr [29] hi h11 := (Fr.call frh8 eh11.1 (by decide))
                have ff29h11 : FF 29 [6, 7, 8] hi h11 := FF.call ff29h8 (eh11.2.1) (by decide)
                rw [(congrFun (eh8.1 35 (by decide)) 3 : h8 35 3 = h5 35 3), (congrFun (eh5.1 35 (by decide)) 3 : h5 35 3 = hk 35 3), (congrFun (frlhk 35 (by decide)) 3 : hk 35 3 = hi 35 3)] at eh11
                rw [(eh8.1 36 (by decide) : h8 36 = h5 36), (eh5.1 36 (by decide) : h5 36 = hk 36), (frlhk 36 (by decide) : hk 36 = hi 36)] at eh11
                have eph11 := eh11.2.2
                replace eh11 := And.intro eh11.1 (And.intro eh11.2.1 trivial)
                rcases eph11 with ⟨gh11, geh11, gvh11, th11, gbh11, gdh11⟩ | ⟨rfl, gvh11, th11⟩
                · have gv4 := gvh11
                  have ge4 := geh11
                  have gd4 := gdh11
                  have gb4 := gbh11
                  refine z_isub (pc := 55) dX4_total_55 (fun v12 ev12 => ?_)
                  refine z_istore_n (pc := 56) (lv' := [(1, AI v12), (2, AI i), (0, AR 36)]) dX4_total_56 rfl (by decide) rfl ?_
                  refine z_iinc (pc := 57) (j := 1) (w := fun q => (2, AI q) :: [(1, AI v12), (0, AR 36)]) dX4_total_57 rfl (by decide) (fun _ => rfl) (fun v13 ev13 => ?_)
                  refine z_goto (pc := 60) (tgt := 7) dX4_total_60 (by decide) ?_
                  exact ih7 v12 v13 h11 (by omega) (by first | exact Or.inr ⟨_, ⟨th11, gs.trans (smR_bad (by omega) (by omega) gv4)⟩, by omega⟩ | exact Or.inl ⟨c2 + 1 + 1, n - 1, bin 2 g _, th11, by show _ = jn 2 (g (hi 36)) _; rw [← ge4, ← ge]; show _ = _ + _; omega, gs.trans (smR_inP (by omega) (by omega) gv4), by omega, QD.bin gd gd4⟩ | exact Or.inl ⟨c2 + 1 + 1, n - 1, bin 3 g _, th11, by show _ = jn 3 (g (hi 36)) _; rw [← ge4, ← ge]; show _ = _ - _; omega, gs.trans (smR_inM (by omega) (by omega) gv4), by omega, QD.bin gd gd4⟩) (frh11) (ff29h11) (by omega)
                · have gv4 := gvh11
                  refine z_isub (pc := 55) dX4_total_55 (fun v14 ev14 => ?_)
                  refine z_istore_n (pc := 56) (lv' := [(1, AI v14), (2, AI i), (0, AR 36)]) dX4_total_56 rfl (by decide) rfl ?_
                  refine z_iinc (pc := 57) (j := 1) (w := fun q => (2, AI q) :: [(1, AI v14), (0, AR 36)]) dX4_total_57 rfl (by decide) (fun _ => rfl) (fun v15 ev15 => ?_)
                  refine z_goto (pc := 60) (tgt := 7) dX4_total_60 (by decide) ?_
                  exact ih7 v14 v15 h11 (by omega) (by first | exact Or.inr ⟨_, ⟨th11, gs.trans (smR_bad (by omega) (by omega) gv4)⟩, by omega⟩ | exact Or.inl ⟨c2 + 1 + 1, n - 1, bin 2 g _, th11, by show _ = jn 2 (g (hi 36)) _; rw [← ge4, ← ge]; show _ = _ + _; omega, gs.trans (smR_inP (by omega) (by omega) gv4), by omega, QD.bin gd gd4⟩ | exact Or.inl ⟨c2 + 1 + 1, n - 1, bin 3 g _, th11, by show _ = jn 3 (g (hi 36)) _; rw [← ge4, ← ge]; show _ = _ - _; omega, gs.trans (smR_inM (by omega) (by omega) gv4), by omega, QD.bin gd gd4⟩) (frh11) (ff29h11) (by omega)
            · obtain ⟨-, sh5, th5⟩ := (eh5.2.2).resolve_right (fun q => absurd q.1 (by omega))
              refine z_iload_n (pc := 27) dX4_total_27 rfl 1 rfl ?_
              refine z_aload_n (pc := 28) (x := 36) dX4_total_28 rfl 2 rfl ?_
              refine z_callV (pc := 29) (kc := kX4_value) (n := 0) (pl := 35) (ci := 4) (C := RX4) (As := []) (stk := [AI tot]) ct_X4_value_TS (gdV rfl rfl (iw33 _ (List.mem_of_getElem? (i := 10) rfl)) (iw33 _ (List.mem_of_getElem? (i := 11) rfl)) (iw33 _ (List.mem_of_getElem? (i := 12) rfl)) (iw2 _ (List.mem_of_getElem? (i := 12) rfl)) (iw33 _ (List.mem_of_getElem? (i := 13) rfl))) rfl ⟨rfl, rfl⟩ (by decide +kernel) ⟨by decide, by decide⟩ (by decide) rfl rfl dX4_total_29 rfl rfl (Nat.le_of_ble_eq_true rfl) ?_
              refine ⟨S, P, V, m, (c2 + 1), rfl, ⟨th5, by rw [(congrFun (eh5.1 35 (by decide)) 3 : h5 35 3 = hk 35 3), (congrFun (frlhk 35 (by decide)) 3 : hk 35 3 = hi 35 3), (eh5.1 36 (by decide) : h5 36 = hk 36), (frlhk 36 (by decide) : hk 36 = hi 36)]; exact ⟨ho, hph, hV⟩⟩, fun v16 h17 eh17 => ?_⟩
              have frh17 : Fr [29] hi h17 := (Fr.call frh5 eh17.1 (by decide))
              have ff29h17 : FF 29 [6, 7, 8] hi h17 := FF.call ff29h5 (eh17.2.1) (by decide)
              rw [(congrFun (eh5.1 35 (by decide)) 3 : h5 35 3 = hk 35 3), (congrFun (frlhk 35 (by decide)) 3 : hk 35 3 = hi 35 3)] at eh17
              rw [(eh5.1 36 (by decide) : h5 36 = hk 36), (frlhk 36 (by decide) : hk 36 = hi 36)] at eh17
              have eph17 := eh17.2.2
              replace eh17 := And.intro eh17.1 (And.intro eh17.2.1 trivial)
              rcases eph17 with ⟨gh17, geh17, gvh17, th17, gbh17, gdh17⟩ | ⟨rfl, gvh17, th17⟩
              · have gv4 := gvh17
                have ge4 := geh17
                have gd4 := gdh17
                have gb4 := gbh17
                refine z_iadd (pc := 32) dX4_total_32 (fun v18 ev18 => ?_)
                refine z_istore_n (pc := 33) (lv' := [(1, AI v18), (2, AI i), (0, AR 36)]) dX4_total_33 rfl (by decide) rfl ?_
                refine z_goto (pc := 34) (tgt := 57) dX4_total_34 (by decide) ?_
                refine z_iinc (pc := 57) (j := 1) (w := fun q => (2, AI q) :: [(1, AI v18), (0, AR 36)]) dX4_total_57 rfl (by decide) (fun _ => rfl) (fun v19 ev19 => ?_)
                refine z_goto (pc := 60) (tgt := 7) dX4_total_60 (by decide) ?_
                exact ih7 v18 v19 h17 (by omega) (by first | exact Or.inr ⟨_, ⟨th17, gs.trans (smR_bad (by omega) (by omega) gv4)⟩, by omega⟩ | exact Or.inl ⟨c2 + 1 + 1, n - 1, bin 2 g _, th17, by show _ = jn 2 (g (hi 36)) _; rw [← ge4, ← ge]; show _ = _ + _; omega, gs.trans (smR_inP (by omega) (by omega) gv4), by omega, QD.bin gd gd4⟩ | exact Or.inl ⟨c2 + 1 + 1, n - 1, bin 3 g _, th17, by show _ = jn 3 (g (hi 36)) _; rw [← ge4, ← ge]; show _ = _ - _; omega, gs.trans (smR_inM (by omega) (by omega) gv4), by omega, QD.bin gd gd4⟩) (frh17) (ff29h17) (by omega)
              · have gv4 := gvh17
                refine z_iadd (pc := 32) dX4_total_32 (fun v20 ev20 => ?_)
                refine z_istore_n (pc := 33) (lv' := [(1, AI v20), (2, AI i), (0, AR 36)]) dX4_total_33 rfl (by decide) rfl ?_
                refine z_goto (pc := 34) (tgt := 57) dX4_total_34 (by decide) ?_
                refine z_iinc (pc := 57) (j := 1) (w := fun q => (2, AI q) :: [(1, AI v20), (0, AR 36)]) dX4_total_57 rfl (by decide) (fun _ => rfl) (fun v21 ev21 => ?_)
                refine z_goto (pc := 60) (tgt := 7) dX4_total_60 (by decide) ?_
                exact ih7 v20 v21 h17 (by omega) (by first | exact Or.inr ⟨_, ⟨th17, gs.trans (smR_bad (by omega) (by omega) gv4)⟩, by omega⟩ | exact Or.inl ⟨c2 + 1 + 1, n - 1, bin 2 g _, th17, by show _ = jn 2 (g (hi 36)) _; rw [← ge4, ← ge]; show _ = _ + _; omega, gs.trans (smR_inP (by omega) (by omega) gv4), by omega, QD.bin gd gd4⟩ | exact Or.inl ⟨c2 + 1 + 1, n - 1, bin 3 g _, th17, by show _ = jn 3 (g (hi 36)) _; rw [← ge4, ← ge]; show _ = _ - _; omega, gs.trans (smR_inM (by omega) (by omega) gv4), by omega, QD.bin gd gd4⟩) (frh17) (ff29h17) (by omega)
        · refine z_iload_n (pc := 7) dX4_total_7 rfl 0 rfl ?_
          refine z_sipush (pc := 8) (v := 600) dX4_total_8 (by decide +kernel) ?_
          refine z_icmp_ge (pc := 11) (tgt := 63) dX4_total_11 (by decide) ⟨by omega, by omega⟩ ⟨by decide, by decide⟩ (fun c22 => ?_) (fun c22 => ?_)
          · refine z_iload_n (pc := 63) dX4_total_63 rfl 1 rfl ?_
            refine z_iret (pc := 64) rfl dX4_total_64 ?_
            exact hQ tot hk ⟨frlhk, ffl29hk, by first | exact ⟨by omega, Or.inl ⟨_, t1, gs⟩⟩ | exact ⟨by omega, Or.inr ⟨c2, g, t1, ge, gs.trans (smR_out n (by omega)), by omega, gd⟩⟩ | (exfalso; omega)⟩
          · refine z_aload_n (pc := 14) (x := 36) dX4_total_14 rfl 2 rfl ?_
            refine z_getR (pc := 15) (pl := 35) (f := 0) (ci := 4) (C := RX4) (T := TX4) (N := 5) hu_X4 (by decide) rfl rfl (by decide) rfl (List.mem_cons_of_mem _ (iw4 _ (List.mem_of_getElem? (i := 19) rfl))) rfl dX4_total_15 ?_
            refine z_getstE (pc := 18) (i := 4) (z := 4) (by decide) rfl (List.mem_cons_of_mem _ (iw33 _ (List.mem_of_getElem? (i := 8) rfl))) dX4_total_18 ?_
            refine z_callV (pc := 21) (kc := kX6_takes) (n := 1) (pl := 29) (ci := 5) (C := RX6) (As := [AR (ec 4)]) (stk := []) ct_X6_takes_TF (gdV rfl rfl (iw32 _ (List.mem_of_getElem? (i := 16) rfl)) (iw23 _ (List.mem_of_getElem? (i := 0) rfl)) (iw23 _ (List.mem_of_getElem? (i := 1) rfl)) (iw2 _ (List.mem_of_getElem? (i := 4) rfl)) (iw23 _ (List.mem_of_getElem? (i := 2) rfl))) rfl ⟨rfl, rfl⟩ (by decide +kernel) ⟨by decide, by decide⟩ (by decide) rfl rfl dX4_total_21 rfl rfl (Nat.le_of_ble_eq_true rfl) ?_
            refine ⟨_, S, P, V, m, 1, p1, rfl, ⟨t1, by decide, by decide⟩, fun v23 h24 eh24 => ?_⟩
            have frh24 : Fr [29] hi h24 := (Fr.call frlhk eh24.1 (by decide))
            have ff29h24 : FF 29 [6, 7, 8] hi h24 := FF.call ffl29hk (eh24.2.1) (by decide)
            have eph24 := eh24.2.2
            replace eh24 := And.intro eh24.1 (And.intro eh24.2.1 trivial)
            obtain ⟨rfl, th24⟩ := eph24
            refine z_if_eq (pc := 24) (tgt := 37) dX4_total_24 (by decide) ⟨by decide, by decide⟩ (fun _ => ?_) (fun q => absurd q (by decide))
            refine z_aload_n (pc := 37) (x := 36) dX4_total_37 rfl 2 rfl ?_
            refine z_getR (pc := 38) (pl := 35) (f := 0) (ci := 4) (C := RX4) (T := TX4) (N := 5) hu_X4 (by decide) rfl rfl (by decide) rfl (List.mem_cons_of_mem _ (iw4 _ (List.mem_of_getElem? (i := 19) rfl))) rfl dX4_total_38 ?_
            refine z_getstE (pc := 41) (i := 5) (z := 5) (by decide) rfl (List.mem_cons_of_mem _ (iw33 _ (List.mem_of_getElem? (i := 9) rfl))) dX4_total_41 ?_
            refine z_callV (pc := 44) (kc := kX6_takes) (n := 1) (pl := 29) (ci := 5) (C := RX6) (As := [AR (ec 5)]) (stk := []) ct_X6_takes_TF (gdV rfl rfl (iw32 _ (List.mem_of_getElem? (i := 16) rfl)) (iw23 _ (List.mem_of_getElem? (i := 0) rfl)) (iw23 _ (List.mem_of_getElem? (i := 1) rfl)) (iw2 _ (List.mem_of_getElem? (i := 4) rfl)) (iw23 _ (List.mem_of_getElem? (i := 2) rfl))) rfl ⟨rfl, rfl⟩ (by decide +kernel) ⟨by decide, by decide⟩ (by decide) rfl rfl dX4_total_44 rfl rfl (Nat.le_of_ble_eq_true rfl) ?_
            refine ⟨_, S, P, V, m, 1, p1, rfl, ⟨th24, by decide, by decide⟩, fun v25 h26 eh26 => ?_⟩
            have frh26 : Fr [29] hi h26 := (Fr.call frh24 eh26.1 (by decide))
            have ff29h26 : FF 29 [6, 7, 8] hi h26 := FF.call ff29h24 (eh26.2.1) (by decide)
            have eph26 := eh26.2.2
            replace eh26 := And.intro eh26.1 (And.intro eh26.2.1 trivial)
            obtain ⟨rfl, th26⟩ := eph26
            refine z_if_eq (pc := 47) (tgt := 63) dX4_total_47 (by decide) ⟨by decide, by decide⟩ (fun _ => ?_) (fun q => absurd q (by decide))
            refine z_iload_n (pc := 63) dX4_total_63 rfl 1 rfl ?_
            refine z_iret (pc := 64) rfl dX4_total_64 ?_
            exact hQ tot h26 ⟨frh26, ff29h26, by first | exact ⟨by omega, Or.inl ⟨_, th26, gs⟩⟩ | exact ⟨by omega, Or.inr ⟨c2, g, th26, ge, gs.trans (smR_out n (by omega)), by omega, gd⟩⟩ | (exfalso; omega)⟩
    exact J7 _ v1 0 h2 (by omega) (by first | exact Or.inr ⟨_, ⟨th2, sumF_bad gv4⟩, by omega⟩ | exact Or.inl ⟨c + 1, 700, _, th2, ge4, sumF_ok gv4, by omega, gd4⟩) (frh2) (ff29h2) (Nat.lt_succ_self _)
  · have gv4 := gvh2
    refine z_istore_n (pc := 4) (lv' := [(1, AI 0), (0, AR 36)]) dX4_total_4 rfl (by decide) rfl ?_
    refine z_iconst (pc := 5) (v := 0) dX4_total_5 rfl ?_
    refine z_istore_n (pc := 6) (lv' := [(2, AI 0), (1, AI 0), (0, AR 36)]) dX4_total_6 rfl (by decide) rfl ?_
    have J7 : ∀ (N : Nat) (tot i : Int) (hk : HI), (0 ≤ i ∧ i ≤ 600) → ((∃ (c2 n : Nat) (g : Ex), TS hk S P V m c2 ∧ tot = g (hi 36) ∧ sumF (hi 35 3) S P V c = smR (hi 35 3) S P V n c2 g ∧ (701 ≤ n + c2 ∧ i + 1 ≤ c2 ∧ c < c2 ∧ -(4000 * (c2 : Int)) ≤ tot ∧ tot ≤ 4000 * (c2 : Int)) ∧ QD (hi 35 3) g) ∨ (∃ p, (TF hk S P V m 1 p ∧ sumF (hi 35 3) S P V c = .inl p) ∧ -2500000 ≤ tot ∧ tot ≤ 2500000)) → (Fr [29] hi hk) → (FF 29 [6, 7, 8] hi hk) → ((600 - i).toNat) < N → Z kX4_total Q 7 [(2, AI i), (1, AI tot), (0, AR 36)] [] hk := by
      intro N
      induction N with
      | zero => intro tot i hk _ _ _ _ _; exact absurd (by assumption) (Nat.not_lt_zero _)
      | succ N ih7 =>
        intro tot i hk i0 i1 frlhk ffl29hk hm7
        rcases i1 with ⟨c2, n, g, t1, ge, gs, gb, gd⟩ | ⟨p1, ⟨t1, gs⟩, gb⟩
        · have cb := t1.2.1
          refine z_iload_n (pc := 7) dX4_total_7 rfl 0 rfl ?_
          refine z_sipush (pc := 8) (v := 600) dX4_total_8 (by decide +kernel) ?_
          refine z_icmp_ge (pc := 11) (tgt := 63) dX4_total_11 (by decide) ⟨by omega, by omega⟩ ⟨by decide, by decide⟩ (fun c27 => ?_) (fun c27 => ?_)
          · refine z_iload_n (pc := 63) dX4_total_63 rfl 1 rfl ?_
            refine z_iret (pc := 64) rfl dX4_total_64 ?_
            exact hQ tot hk ⟨frlhk, ffl29hk, by first | exact ⟨by omega, Or.inl ⟨_, t1, gs⟩⟩ | exact ⟨by omega, Or.inr ⟨c2, g, t1, ge, gs.trans (smR_out n (by omega)), by omega, gd⟩⟩ | (exfalso; omega)⟩
          · refine z_aload_n (pc := 14) (x := 36) dX4_total_14 rfl 2 rfl ?_
            refine z_getR (pc := 15) (pl := 35) (f := 0) (ci := 4) (C := RX4) (T := TX4) (N := 5) hu_X4 (by decide) rfl rfl (by decide) rfl (List.mem_cons_of_mem _ (iw4 _ (List.mem_of_getElem? (i := 19) rfl))) rfl dX4_total_15 ?_
            refine z_getstE (pc := 18) (i := 4) (z := 4) (by decide) rfl (List.mem_cons_of_mem _ (iw33 _ (List.mem_of_getElem? (i := 8) rfl))) dX4_total_18 ?_
            refine z_callV (pc := 21) (kc := kX6_takes) (n := 1) (pl := 29) (ci := 5) (C := RX6) (As := [AR (ec 4)]) (stk := []) ct_X6_takes_TS (gdV rfl rfl (iw32 _ (List.mem_of_getElem? (i := 16) rfl)) (iw23 _ (List.mem_of_getElem? (i := 0) rfl)) (iw23 _ (List.mem_of_getElem? (i := 1) rfl)) (iw2 _ (List.mem_of_getElem? (i := 4) rfl)) (iw23 _ (List.mem_of_getElem? (i := 2) rfl))) rfl ⟨rfl, rfl⟩ (by decide +kernel) ⟨by decide, by decide⟩ (by decide) rfl rfl dX4_total_21 rfl rfl (Nat.le_of_ble_eq_true rfl) ?_
            refine ⟨_, S, P, V, m, c2, rfl, ⟨t1, by decide, by decide⟩, fun v28 h29 eh29 => ?_⟩
            have frh29 : Fr [29] hi h29 := (Fr.call frlhk eh29.1 (by decide))
            have ff29h29 : FF 29 [6, 7, 8] hi h29 := FF.call ffl29hk (eh29.2.1) (by decide)
            refine z_if_eq (pc := 24) (tgt := 37) dX4_total_24 (by decide) ⟨by omega, by omega⟩ (fun c30 => ?_) (fun c30 => ?_)
            · obtain ⟨-, sh29, th29⟩ := (eh29.2.2).resolve_left (fun q => absurd q.1 (by omega))
              refine z_aload_n (pc := 37) (x := 36) dX4_total_37 rfl 2 rfl ?_
              refine z_getR (pc := 38) (pl := 35) (f := 0) (ci := 4) (C := RX4) (T := TX4) (N := 5) hu_X4 (by decide) rfl rfl (by decide) rfl (List.mem_cons_of_mem _ (iw4 _ (List.mem_of_getElem? (i := 19) rfl))) rfl dX4_total_38 ?_
              refine z_getstE (pc := 41) (i := 5) (z := 5) (by decide) rfl (List.mem_cons_of_mem _ (iw33 _ (List.mem_of_getElem? (i := 9) rfl))) dX4_total_41 ?_
              refine z_callV (pc := 44) (kc := kX6_takes) (n := 1) (pl := 29) (ci := 5) (C := RX6) (As := [AR (ec 5)]) (stk := []) ct_X6_takes_TS (gdV rfl rfl (iw32 _ (List.mem_of_getElem? (i := 16) rfl)) (iw23 _ (List.mem_of_getElem? (i := 0) rfl)) (iw23 _ (List.mem_of_getElem? (i := 1) rfl)) (iw2 _ (List.mem_of_getElem? (i := 4) rfl)) (iw23 _ (List.mem_of_getElem? (i := 2) rfl))) rfl ⟨rfl, rfl⟩ (by decide +kernel) ⟨by decide, by decide⟩ (by decide) rfl rfl dX4_total_44 rfl rfl (Nat.le_of_ble_eq_true rfl) ?_
              refine ⟨_, S, P, V, m, c2, rfl, ⟨th29, by decide, by decide⟩, fun v31 h32 eh32 => ?_⟩
              have frh32 : Fr [29] hi h32 := (Fr.call frh29 eh32.1 (by decide))
              have ff29h32 : FF 29 [6, 7, 8] hi h32 := FF.call ff29h29 (eh32.2.1) (by decide)
              refine z_if_eq (pc := 47) (tgt := 63) dX4_total_47 (by decide) ⟨by omega, by omega⟩ (fun c33 => ?_) (fun c33 => ?_)
              · obtain ⟨-, sh32, th32⟩ := (eh32.2.2).resolve_left (fun q => absurd q.1 (by omega))
                refine z_iload_n (pc := 63) dX4_total_63 rfl 1 rfl ?_
                refine z_iret (pc := 64) rfl dX4_total_64 ?_
                exact hQ tot h32 ⟨frh32, ff29h32, by first | exact ⟨by omega, Or.inl ⟨_, th32, gs⟩⟩ | exact ⟨by omega, Or.inr ⟨c2, g, th32, ge, gs.trans (smR_out n (by omega)), by omega, gd⟩⟩ | (exfalso; omega)⟩
              · obtain ⟨-, sh32, th32⟩ := (eh32.2.2).resolve_right (fun q => absurd q.1 (by omega))
                refine z_iload_n (pc := 50) dX4_total_50 rfl 1 rfl ?_
                refine z_aload_n (pc := 51) (x := 36) dX4_total_51 rfl 2 rfl ?_
                refine z_callV (pc := 52) (kc := kX4_value) (n := 0) (pl := 35) (ci := 4) (C := RX4) (As := []) (stk := [AI tot]) ct_X4_value_TS (gdV rfl rfl (iw33 _ (List.mem_of_getElem? (i := 10) rfl)) (iw33 _ (List.mem_of_getElem? (i := 11) rfl)) (iw33 _ (List.mem_of_getElem? (i := 12) rfl)) (iw2 _ (List.mem_of_getElem? (i := 12) rfl)) (iw33 _ (List.mem_of_getElem? (i := 13) rfl))) rfl ⟨rfl, rfl⟩ (by decide +kernel) ⟨by decide, by decide⟩ (by decide) rfl rfl dX4_total_52 rfl rfl (Nat.le_of_ble_eq_true rfl) ?_
                refine ⟨S, P, V, m, (c2 + 1), rfl, ⟨th32, by rw [(congrFun (eh32.1 35 (by decide)) 3 : h32 35 3 = h29 35 3), (congrFun (eh29.1 35 (by decide)) 3 : h29 35 3 = hk 35 3), (congrFun (frlhk 35 (by decide)) 3 : hk 35 3 = hi 35 3), (eh32.1 36 (by decide) : h32 36 = h29 36), (eh29.1 36 (by decide) : h29 36 = hk 36), (frlhk 36 (by decide) : hk 36 = hi 36)]; exact ⟨ho, hph, hV⟩⟩, fun v34 h35 eh35 => ?_⟩
                have frh35 : Fr [29] hi h35 := (Fr.call frh32 eh35.1 (by decide))
                have ff29h35 : FF 29 [6, 7, 8] hi h35 := FF.call ff29h32 (eh35.2.1) (by decide)
                rw [(congrFun (eh32.1 35 (by decide)) 3 : h32 35 3 = h29 35 3), (congrFun (eh29.1 35 (by decide)) 3 : h29 35 3 = hk 35 3), (congrFun (frlhk 35 (by decide)) 3 : hk 35 3 = hi 35 3)] at eh35
                rw [(eh32.1 36 (by decide) : h32 36 = h29 36), (eh29.1 36 (by decide) : h29 36 = hk 36), (frlhk 36 (by decide) : hk 36 = hi 36)] at eh35
                have eph35 := eh35.2.2
                replace eh35 := And.intro eh35.1 (And.intro eh35.2.1 trivial)
                rcases eph35 with ⟨gh35, geh35, gvh35, th35, gbh35, gdh35⟩ | ⟨rfl, gvh35, th35⟩
                · have gv4 := gvh35
                  have ge4 := geh35
                  have gd4 := gdh35
                  have gb4 := gbh35
                  refine z_isub (pc := 55) dX4_total_55 (fun v36 ev36 => ?_)
                  refine z_istore_n (pc := 56) (lv' := [(1, AI v36), (2, AI i), (0, AR 36)]) dX4_total_56 rfl (by decide) rfl ?_
                  refine z_iinc (pc := 57) (j := 1) (w := fun q => (2, AI q) :: [(1, AI v36), (0, AR 36)]) dX4_total_57 rfl (by decide) (fun _ => rfl) (fun v37 ev37 => ?_)
                  refine z_goto (pc := 60) (tgt := 7) dX4_total_60 (by decide) ?_
                  exact ih7 v36 v37 h35 (by omega) (by first | exact Or.inr ⟨_, ⟨th35, gs.trans (smR_bad (by omega) (by omega) gv4)⟩, by omega⟩ | exact Or.inl ⟨c2 + 1 + 1, n - 1, bin 2 g _, th35, by show _ = jn 2 (g (hi 36)) _; rw [← ge4, ← ge]; show _ = _ + _; omega, gs.trans (smR_inP (by omega) (by omega) gv4), by omega, QD.bin gd gd4⟩ | exact Or.inl ⟨c2 + 1 + 1, n - 1, bin 3 g _, th35, by show _ = jn 3 (g (hi 36)) _; rw [← ge4, ← ge]; show _ = _ - _; omega, gs.trans (smR_inM (by omega) (by omega) gv4), by omega, QD.bin gd gd4⟩) (frh35) (ff29h35) (by omega)
                · have gv4 := gvh35
                  refine z_isub (pc := 55) dX4_total_55 (fun v38 ev38 => ?_)
                  refine z_istore_n (pc := 56) (lv' := [(1, AI v38), (2, AI i), (0, AR 36)]) dX4_total_56 rfl (by decide) rfl ?_
                  refine z_iinc (pc := 57) (j := 1) (w := fun q => (2, AI q) :: [(1, AI v38), (0, AR 36)]) dX4_total_57 rfl (by decide) (fun _ => rfl) (fun v39 ev39 => ?_)
                  refine z_goto (pc := 60) (tgt := 7) dX4_total_60 (by decide) ?_
                  exact ih7 v38 v39 h35 (by omega) (by first | exact Or.inr ⟨_, ⟨th35, gs.trans (smR_bad (by omega) (by omega) gv4)⟩, by omega⟩ | exact Or.inl ⟨c2 + 1 + 1, n - 1, bin 2 g _, th35, by show _ = jn 2 (g (hi 36)) _; rw [← ge4, ← ge]; show _ = _ + _; omega, gs.trans (smR_inP (by omega) (by omega) gv4), by omega, QD.bin gd gd4⟩ | exact Or.inl ⟨c2 + 1 + 1, n - 1, bin 3 g _, th35, by show _ = jn 3 (g (hi 36)) _; rw [← ge4, ← ge]; show _ = _ - _; omega, gs.trans (smR_inM (by omega) (by omega) gv4), by omega, QD.bin gd gd4⟩) (frh35) (ff29h35) (by omega)
            · obtain ⟨-, sh29, th29⟩ := (eh29.2.2).resolve_right (fun q => absurd q.1 (by omega))
              refine z_iload_n (pc := 27) dX4_total_27 rfl 1 rfl ?_
              refine z_aload_n (pc := 28) (x := 36) dX4_total_28 rfl 2 rfl ?_
              refine z_callV (pc := 29) (kc := kX4_value) (n := 0) (pl := 35) (ci := 4) (C := RX4) (As := []) (stk := [AI tot]) ct_X4_value_TS (gdV rfl rfl (iw33 _ (List.mem_of_getElem? (i := 10) rfl)) (iw33 _ (List.mem_of_getElem? (i := 11) rfl)) (iw33 _ (List.mem_of_getElem? (i := 12) rfl)) (iw2 _ (List.mem_of_getElem? (i := 12) rfl)) (iw33 _ (List.mem_of_getElem? (i := 13) rfl))) rfl ⟨rfl, rfl⟩ (by decide +kernel) ⟨by decide, by decide⟩ (by decide) rfl rfl dX4_total_29 rfl rfl (Nat.le_of_ble_eq_true rfl) ?_
              refine ⟨S, P, V, m, (c2 + 1), rfl, ⟨th29, by rw [(congrFun (eh29.1 35 (by decide)) 3 : h29 35 3 = hk 35 3), (congrFun (frlhk 35 (by decide)) 3 : hk 35 3 = hi 35 3), (eh29.1 36 (by decide) : h29 36 = hk 36), (frlhk 36 (by decide) : hk 36 = hi 36)]; exact ⟨ho, hph, hV⟩⟩, fun v40 h41 eh41 => ?_⟩
              have frh41 : Fr [29] hi h41 := (Fr.call frh29 eh41.1 (by decide))
              have ff29h41 : FF 29 [6, 7, 8] hi h41 := FF.call ff29h29 (eh41.2.1) (by decide)
              rw [(congrFun (eh29.1 35 (by decide)) 3 : h29 35 3 = hk 35 3), (congrFun (frlhk 35 (by decide)) 3 : hk 35 3 = hi 35 3)] at eh41
              rw [(eh29.1 36 (by decide) : h29 36 = hk 36), (frlhk 36 (by decide) : hk 36 = hi 36)] at eh41
              have eph41 := eh41.2.2
              replace eh41 := And.intro eh41.1 (And.intro eh41.2.1 trivial)
              rcases eph41 with ⟨gh41, geh41, gvh41, th41, gbh41, gdh41⟩ | ⟨rfl, gvh41, th41⟩
              · have gv4 := gvh41
                have ge4 := geh41
                have gd4 := gdh41
                have gb4 := gbh41
                refine z_iadd (pc := 32) dX4_total_32 (fun v42 ev42 => ?_)
                refine z_istore_n (pc := 33) (lv' := [(1, AI v42), (2, AI i), (0, AR 36)]) dX4_total_33 rfl (by decide) rfl ?_
                refine z_goto (pc := 34) (tgt := 57) dX4_total_34 (by decide) ?_
                refine z_iinc (pc := 57) (j := 1) (w := fun q => (2, AI q) :: [(1, AI v42), (0, AR 36)]) dX4_total_57 rfl (by decide) (fun _ => rfl) (fun v43 ev43 => ?_)
                refine z_goto (pc := 60) (tgt := 7) dX4_total_60 (by decide) ?_
                exact ih7 v42 v43 h41 (by omega) (by first | exact Or.inr ⟨_, ⟨th41, gs.trans (smR_bad (by omega) (by omega) gv4)⟩, by omega⟩ | exact Or.inl ⟨c2 + 1 + 1, n - 1, bin 2 g _, th41, by show _ = jn 2 (g (hi 36)) _; rw [← ge4, ← ge]; show _ = _ + _; omega, gs.trans (smR_inP (by omega) (by omega) gv4), by omega, QD.bin gd gd4⟩ | exact Or.inl ⟨c2 + 1 + 1, n - 1, bin 3 g _, th41, by show _ = jn 3 (g (hi 36)) _; rw [← ge4, ← ge]; show _ = _ - _; omega, gs.trans (smR_inM (by omega) (by omega) gv4), by omega, QD.bin gd gd4⟩) (frh41) (ff29h41) (by omega)
              · have gv4 := gvh41
                refine z_iadd (pc := 32) dX4_total_32 (fun v44 ev44 => ?_)
                refine z_istore_n (pc := 33) (lv' := [(1, AI v44), (2, AI i), (0, AR 36)]) dX4_total_33 rfl (by decide) rfl ?_
                refine z_goto (pc := 34) (tgt := 57) dX4_total_34 (by decide) ?_
                refine z_iinc (pc := 57) (j := 1) (w := fun q => (2, AI q) :: [(1, AI v44), (0, AR 36)]) dX4_total_57 rfl (by decide) (fun _ => rfl) (fun v45 ev45 => ?_)
                refine z_goto (pc := 60) (tgt := 7) dX4_total_60 (by decide) ?_
                exact ih7 v44 v45 h41 (by omega) (by first | exact Or.inr ⟨_, ⟨th41, gs.trans (smR_bad (by omega) (by omega) gv4)⟩, by omega⟩ | exact Or.inl ⟨c2 + 1 + 1, n - 1, bin 2 g _, th41, by show _ = jn 2 (g (hi 36)) _; rw [← ge4, ← ge]; show _ = _ + _; omega, gs.trans (smR_inP (by omega) (by omega) gv4), by omega, QD.bin gd gd4⟩ | exact Or.inl ⟨c2 + 1 + 1, n - 1, bin 3 g _, th41, by show _ = jn 3 (g (hi 36)) _; rw [← ge4, ← ge]; show _ = _ - _; omega, gs.trans (smR_inM (by omega) (by omega) gv4), by omega, QD.bin gd gd4⟩) (frh41) (ff29h41) (by omega)
        · refine z_iload_n (pc := 7) dX4_total_7 rfl 0 rfl ?_
          refine z_sipush (pc := 8) (v := 600) dX4_total_8 (by decide +kernel) ?_
          refine z_icmp_ge (pc := 11) (tgt := 63) dX4_total_11 (by decide) ⟨by omega, by omega⟩ ⟨by decide, by decide⟩ (fun c46 => ?_) (fun c46 => ?_)
          · refine z_iload_n (pc := 63) dX4_total_63 rfl 1 rfl ?_
            refine z_iret (pc := 64) rfl dX4_total_64 ?_
            exact hQ tot hk ⟨frlhk, ffl29hk, by first | exact ⟨by omega, Or.inl ⟨_, t1, gs⟩⟩ | exact ⟨by omega, Or.inr ⟨c2, g, t1, ge, gs.trans (smR_out n (by omega)), by omega, gd⟩⟩ | (exfalso; omega)⟩
          · refine z_aload_n (pc := 14) (x := 36) dX4_total_14 rfl 2 rfl ?_
            refine z_getR (pc := 15) (pl := 35) (f := 0) (ci := 4) (C := RX4) (T := TX4) (N := 5) hu_X4 (by decide) rfl rfl (by decide) rfl (List.mem_cons_of_mem _ (iw4 _ (List.mem_of_getElem? (i := 19) rfl))) rfl dX4_total_15 ?_
            refine z_getstE (pc := 18) (i := 4) (z := 4) (by decide) rfl (List.mem_cons_of_mem _ (iw33 _ (List.mem_of_getElem? (i := 8) rfl))) dX4_total_18 ?_
            refine z_callV (pc := 21) (kc := kX6_takes) (n := 1) (pl := 29) (ci := 5) (C := RX6) (As := [AR (ec 4)]) (stk := []) ct_X6_takes_TF (gdV rfl rfl (iw32 _ (List.mem_of_getElem? (i := 16) rfl)) (iw23 _ (List.mem_of_getElem? (i := 0) rfl)) (iw23 _ (List.mem_of_getElem? (i := 1) rfl)) (iw2 _ (List.mem_of_getElem? (i := 4) rfl)) (iw23 _ (List.mem_of_getElem? (i := 2) rfl))) rfl ⟨rfl, rfl⟩ (by decide +kernel) ⟨by decide, by decide⟩ (by decide) rfl rfl dX4_total_21 rfl rfl (Nat.le_of_ble_eq_true rfl) ?_
            refine ⟨_, S, P, V, m, 1, p1, rfl, ⟨t1, by decide, by decide⟩, fun v47 h48 eh48 => ?_⟩
            have frh48 : Fr [29] hi h48 := (Fr.call frlhk eh48.1 (by decide))
            have ff29h48 : FF 29 [6, 7, 8] hi h48 := FF.call ffl29hk (eh48.2.1) (by decide)
            have eph48 := eh48.2.2
            replace eh48 := And.intro eh48.1 (And.intro eh48.2.1 trivial)
            obtain ⟨rfl, th48⟩ := eph48
            refine z_if_eq (pc := 24) (tgt := 37) dX4_total_24 (by decide) ⟨by decide, by decide⟩ (fun _ => ?_) (fun q => absurd q (by decide))
            refine z_aload_n (pc := 37) (x := 36) dX4_total_37 rfl 2 rfl ?_
            refine z_getR (pc := 38) (pl := 35) (f := 0) (ci := 4) (C := RX4) (T := TX4) (N := 5) hu_X4 (by decide) rfl rfl (by decide) rfl (List.mem_cons_of_mem _ (iw4 _ (List.mem_of_getElem? (i := 19) rfl))) rfl dX4_total_38 ?_
            refine z_getstE (pc := 41) (i := 5) (z := 5) (by decide) rfl (List.mem_cons_of_mem _ (iw33 _ (List.mem_of_getElem? (i := 9) rfl))) dX4_total_41 ?_
            refine z_callV (pc := 44) (kc := kX6_takes) (n := 1) (pl := 29) (ci := 5) (C := RX6) (As := [AR (ec 5)]) (stk := []) ct_X6_takes_TF (gdV rfl rfl (iw32 _ (List.mem_of_getElem? (i := 16) rfl)) (iw23 _ (List.mem_of_getElem? (i := 0) rfl)) (iw23 _ (List.mem_of_getElem? (i := 1) rfl)) (iw2 _ (List.mem_of_getElem? (i := 4) rfl)) (iw23 _ (List.mem_of_getElem? (i := 2) rfl))) rfl ⟨rfl, rfl⟩ (by decide +kernel) ⟨by decide, by decide⟩ (by decide) rfl rfl dX4_total_44 rfl rfl (Nat.le_of_ble_eq_true rfl) ?_
            refine ⟨_, S, P, V, m, 1, p1, rfl, ⟨th48, by decide, by decide⟩, fun v49 h50 eh50 => ?_⟩
            have frh50 : Fr [29] hi h50 := (Fr.call frh48 eh50.1 (by decide))
            have ff29h50 : FF 29 [6, 7, 8] hi h50 := FF.call ff29h48 (eh50.2.1) (by decide)
            have eph50 := eh50.2.2
            replace eh50 := And.intro eh50.1 (And.intro eh50.2.1 trivial)
            obtain ⟨rfl, th50⟩ := eph50
            refine z_if_eq (pc := 47) (tgt := 63) dX4_total_47 (by decide) ⟨by decide, by decide⟩ (fun _ => ?_) (fun q => absurd q (by decide))
            refine z_iload_n (pc := 63) dX4_total_63 rfl 1 rfl ?_
            refine z_iret (pc := 64) rfl dX4_total_64 ?_
            exact hQ tot h50 ⟨frh50, ff29h50, by first | exact ⟨by omega, Or.inl ⟨_, th50, gs⟩⟩ | exact ⟨by omega, Or.inr ⟨c2, g, th50, ge, gs.trans (smR_out n (by omega)), by omega, gd⟩⟩ | (exfalso; omega)⟩
    exact J7 _ 0 0 h2 (by omega) (by first | exact Or.inr ⟨_, ⟨th2, sumF_bad gv4⟩, by omega⟩ | exact Or.inl ⟨c + 1, 700, _, th2, ge4, sumF_ok gv4, by omega, gd4⟩) (frh2) (ff29h2) (Nat.lt_succ_self _)

theorem ct_X4_total_TF : Ct kX4_total yX4_total (fun a hi Q => ∃ S : Nat → Int, ∃ P : Nat → Int, ∃ V : Nat → Int, ∃ m : Nat, ∃ k : Int, ∃ p : Int, a = [AR 36] ∧ ((TF hi S P V m k p) ∧ True) ∧ ∀ (v : Int) (h2 : HI), (Fr [29] hi h2 ∧ FF 29 [6, 7, 8] hi h2 ∧ (((-3000000 ≤ v ∧ v ≤ 3000000)) ∧ TF h2 S P V m k p)) → Q (AI v) h2) := by
  refine Ct.of (ws' := _) (by decide +kernel) rfl rfl ?_
  intro a hi Q hT
  obtain ⟨S, P, V, m, k, p, rfl, hpre, hQ⟩ := hT
  refine ⟨Nat.le_of_ble_eq_true rfl, ?_⟩
  show Z kX4_total Q 0 [(0, AR 36)] [] hi
  have t0 := hpre.1
  refine z_aload_n (pc := 0) (x := 36) dX4_total_0 rfl 0 rfl ?_
  refine z_callV (pc := 1) (kc := kX4_value) (n := 0) (pl := 35) (ci := 4) (C := RX4) (As := []) (stk := []) ct_X4_value_TF (gdV rfl rfl (iw33 _ (List.mem_of_getElem? (i := 10) rfl)) (iw33 _ (List.mem_of_getElem? (i := 11) rfl)) (iw33 _ (List.mem_of_getElem? (i := 12) rfl)) (iw2 _ (List.mem_of_getElem? (i := 12) rfl)) (iw33 _ (List.mem_of_getElem? (i := 13) rfl))) rfl ⟨rfl, rfl⟩ (by decide +kernel) ⟨by decide, by decide⟩ (by decide) rfl rfl dX4_total_1 rfl rfl (Nat.le_of_ble_eq_true rfl) ?_
  refine ⟨S, P, V, m, k, p, rfl, ⟨t0, trivial⟩, fun v1 h2 eh2 => ?_⟩
  have frh2 : Fr [29] hi h2 := (Fr.call (Fr.rf) eh2.1 (by decide))
  have ff29h2 : FF 29 [6, 7, 8] hi h2 := FF.call (FF.rf) (eh2.2.1) (by decide)
  have eph2 := eh2.2.2
  replace eh2 := And.intro eh2.1 (And.intro eh2.2.1 trivial)
  obtain ⟨rfl, th2⟩ := eph2
  refine z_istore_n (pc := 4) (lv' := [(1, AI 0), (0, AR 36)]) dX4_total_4 rfl (by decide) rfl ?_
  refine z_iconst (pc := 5) (v := 0) dX4_total_5 rfl ?_
  refine z_istore_n (pc := 6) (lv' := [(2, AI 0), (1, AI 0), (0, AR 36)]) dX4_total_6 rfl (by decide) rfl ?_
  have J7 : ∀ (N : Nat) (tot i : Int) (hk : HI), (0 ≤ i ∧ i ≤ 600) → (TF hk S P V m k p ∧ tot = 0) → (Fr [29] hi hk) → (FF 29 [6, 7, 8] hi hk) → ((600 - i).toNat) < N → Z kX4_total Q 7 [(2, AI i), (1, AI tot), (0, AR 36)] [] hk := by
    intro N
    induction N with
    | zero => intro tot i hk _ _ _ _ _; exact absurd (by assumption) (Nat.not_lt_zero _)
    | succ N ih7 =>
      intro tot i hk i0 i1 frlhk ffl29hk hm7
      refine z_iload_n (pc := 7) dX4_total_7 rfl 0 rfl ?_
      refine z_sipush (pc := 8) (v := 600) dX4_total_8 (by decide +kernel) ?_
      refine z_icmp_ge (pc := 11) (tgt := 63) dX4_total_11 (by decide) ⟨by omega, by omega⟩ ⟨by decide, by decide⟩ (fun c3 => ?_) (fun c3 => ?_)
      · refine z_iload_n (pc := 63) dX4_total_63 rfl 1 rfl ?_
        refine z_iret (pc := 64) rfl dX4_total_64 ?_
        exact hQ tot hk ⟨frlhk, ffl29hk, ⟨by omega, i1.1⟩⟩
      · refine z_aload_n (pc := 14) (x := 36) dX4_total_14 rfl 2 rfl ?_
        refine z_getR (pc := 15) (pl := 35) (f := 0) (ci := 4) (C := RX4) (T := TX4) (N := 5) hu_X4 (by decide) rfl rfl (by decide) rfl (List.mem_cons_of_mem _ (iw4 _ (List.mem_of_getElem? (i := 19) rfl))) rfl dX4_total_15 ?_
        refine z_getstE (pc := 18) (i := 4) (z := 4) (by decide) rfl (List.mem_cons_of_mem _ (iw33 _ (List.mem_of_getElem? (i := 8) rfl))) dX4_total_18 ?_
        refine z_callV (pc := 21) (kc := kX6_takes) (n := 1) (pl := 29) (ci := 5) (C := RX6) (As := [AR (ec 4)]) (stk := []) ct_X6_takes_TF (gdV rfl rfl (iw32 _ (List.mem_of_getElem? (i := 16) rfl)) (iw23 _ (List.mem_of_getElem? (i := 0) rfl)) (iw23 _ (List.mem_of_getElem? (i := 1) rfl)) (iw2 _ (List.mem_of_getElem? (i := 4) rfl)) (iw23 _ (List.mem_of_getElem? (i := 2) rfl))) rfl ⟨rfl, rfl⟩ (by decide +kernel) ⟨by decide, by decide⟩ (by decide) rfl rfl dX4_total_21 rfl rfl (Nat.le_of_ble_eq_true rfl) ?_
        refine ⟨_, S, P, V, m, k, p, rfl, ⟨i1.1, by decide, by decide⟩, fun v4 h5 eh5 => ?_⟩
        have frh5 : Fr [29] hi h5 := (Fr.call frlhk eh5.1 (by decide))
        have ff29h5 : FF 29 [6, 7, 8] hi h5 := FF.call ffl29hk (eh5.2.1) (by decide)
        have eph5 := eh5.2.2
        replace eh5 := And.intro eh5.1 (And.intro eh5.2.1 trivial)
        obtain ⟨rfl, th5⟩ := eph5
        refine z_if_eq (pc := 24) (tgt := 37) dX4_total_24 (by decide) ⟨by decide, by decide⟩ (fun _ => ?_) (fun q => absurd q (by decide))
        refine z_aload_n (pc := 37) (x := 36) dX4_total_37 rfl 2 rfl ?_
        refine z_getR (pc := 38) (pl := 35) (f := 0) (ci := 4) (C := RX4) (T := TX4) (N := 5) hu_X4 (by decide) rfl rfl (by decide) rfl (List.mem_cons_of_mem _ (iw4 _ (List.mem_of_getElem? (i := 19) rfl))) rfl dX4_total_38 ?_
        refine z_getstE (pc := 41) (i := 5) (z := 5) (by decide) rfl (List.mem_cons_of_mem _ (iw33 _ (List.mem_of_getElem? (i := 9) rfl))) dX4_total_41 ?_
        refine z_callV (pc := 44) (kc := kX6_takes) (n := 1) (pl := 29) (ci := 5) (C := RX6) (As := [AR (ec 5)]) (stk := []) ct_X6_takes_TF (gdV rfl rfl (iw32 _ (List.mem_of_getElem? (i := 16) rfl)) (iw23 _ (List.mem_of_getElem? (i := 0) rfl)) (iw23 _ (List.mem_of_getElem? (i := 1) rfl)) (iw2 _ (List.mem_of_getElem? (i := 4) rfl)) (iw23 _ (List.mem_of_getElem? (i := 2) rfl))) rfl ⟨rfl, rfl⟩ (by decide +kernel) ⟨by decide, by decide⟩ (by decide) rfl rfl dX4_total_44 rfl rfl (Nat.le_of_ble_eq_true rfl) ?_
        refine ⟨_, S, P, V, m, k, p, rfl, ⟨th5, by decide, by decide⟩, fun v6 h7 eh7 => ?_⟩
        have frh7 : Fr [29] hi h7 := (Fr.call frh5 eh7.1 (by decide))
        have ff29h7 : FF 29 [6, 7, 8] hi h7 := FF.call ff29h5 (eh7.2.1) (by decide)
        have eph7 := eh7.2.2
        replace eh7 := And.intro eh7.1 (And.intro eh7.2.1 trivial)
        obtain ⟨rfl, th7⟩ := eph7
        refine z_if_eq (pc := 47) (tgt := 63) dX4_total_47 (by decide) ⟨by decide, by decide⟩ (fun _ => ?_) (fun q => absurd q (by decide))
        refine z_iload_n (pc := 63) dX4_total_63 rfl 1 rfl ?_
        refine z_iret (pc := 64) rfl dX4_total_64 ?_
        exact hQ tot h7 ⟨frh7, ff29h7, ⟨by omega, th7⟩⟩
  exact J7 _ 0 0 h2 (by omega) (⟨th2, rfl⟩) (frh2) (ff29h2) (Nat.lt_succ_self _)

abbrev kX8_sumHere : Kd := (cX8_sumHere, .code yX8_sumHere cX8_sumHere 2 (some .boolean) :: wsL_law0, rmL 4, RX8, (some .boolean), 2)
theorem ct_X8_sumHere : Ct kX8_sumHere yX8_sumHere (fun a hi Q => ∃ S : Nat → Int, ∃ P : Nat → Int, ∃ V : Nat → Int, ∃ st : Nat → Int, ∃ m : Nat, ∃ c : Nat, ∃ G : List Ex, a = [AR 40] ∧ (TM hi S P V st m c ∧ hi 39 15 = -1 ∧ (hi 39 28 = 0 ∨ hi 39 28 = 1) ∧ CM hi G ∧ hi 39 24 ≤ c) ∧ ∀ (v : Int) (h2 : HI), (Fr [39, 49] hi h2 ∧ FF 39 [10, 11, 12, 13, 14, 15, 16, 24] hi h2 ∧ ((v = 1 ∧ ∃ (c2 : Nat) (g : Ex), sumF (hi 39 28) S P V c = .inr (c2, g) ∧ TM h2 S P V st m c2 ∧ CM h2 (g :: G) ∧ (c < c2 ∧ h2 39 24 - hi 39 24 ≤ c2 - c) ∧ h2 39 15 = -1 ∧ QD (hi 39 28) g) ∨ (v = 0 ∧ ∃ p, sumF (hi 39 28) S P V c = .inl p ∧ FLK h2 1 p))) → Q (AI v) h2) := by
  refine Ct.of (ws' := _) (by decide +kernel) rfl rfl ?_
  intro a hi Q hT
  obtain ⟨S, P, V, st, m, c, G, rfl, hpre, hQ⟩ := hT
  refine ⟨Nat.le_of_ble_eq_true rfl, ?_⟩
  show Z kX8_sumHere Q 0 [(0, AR 40)] [] hi
  have t0 := hpre.1
  obtain ⟨f15, ho, cg, b24⟩ := hpre.2
  have c24 := cg.1
  have cm := t0.2.1
  have mb := t0.rg
  refine z_aload_n (pc := 0) (x := 40) dX8_sumHere_0 rfl 0 rfl ?_
  refine z_callV (pc := 1) (kc := kX8_valueHere) (n := 0) (pl := 39) (ci := 7) (C := RX8) (As := []) (stk := []) ct_X8_valueHere (gdV rfl rfl (iw36 _ (List.mem_of_getElem? (i := 21) rfl)) (iw36 _ (List.mem_of_getElem? (i := 22) rfl)) (iw36 _ (List.mem_of_getElem? (i := 23) rfl)) (iw1 _ (List.mem_of_getElem? (i := 5) rfl)) (iw37 _ (List.mem_of_getElem? (i := 0) rfl))) rfl ⟨rfl, rfl⟩ (by decide +kernel) ⟨by decide, by decide⟩ (by decide) rfl rfl dX8_sumHere_1 rfl rfl (Nat.le_of_ble_eq_true rfl) ?_
  refine ⟨S, P, V, st, m, c, G, rfl, ⟨t0, by first | assumption | (rw [(rfl : hi 39 15 = hi 39 15)]; assumption), by skip; try rw [(rfl : hi 39 28 = hi 39 28)]; exact ho, (cg.kp rfl rfl), by skip; try rw [(rfl : hi 39 24 = hi 39 24)]; omega⟩, fun v1 h2 eh2 => ?_⟩
  have frh2 : Fr [39, 49] hi h2 := (Fr.call (Fr.rf) eh2.1 (by decide))
  have ff39h2 : FF 39 [10, 11, 12, 13, 14, 15, 16, 24] hi h2 := FF.call (FF.rf) (eh2.2.1) (by decide)
  refine z_if_ne (pc := 4) (tgt := 9) dX8_sumHere_4 (by decide) ⟨by omega, by omega⟩ (fun c3 => ?_) (fun c3 => ?_)
  · obtain ⟨-, gh2, gvh2, th2, gch2, gnh2, fh2, gdh2⟩ := (eh2.2.2).resolve_right (fun q => absurd q.1 (by omega))
    have gvL := gvh2
    have gcL := gch2
    have gdL := gdh2
    have gnL := gnh2
    have J9 : ∀ (N : Nat) (hk : HI), (∃ (c2 n : Nat) (g : Ex), TM hk S P V st m c2 ∧ CM hk (g :: G) ∧ sumF (hi 39 28) S P V c = smR (hi 39 28) S P V n c2 g ∧ (701 ≤ n + c2 ∧ c < c2 ∧ hk 39 24 - hi 39 24 ≤ c2 - c) ∧ QD (hi 39 28) g) → (hk 39 15 = -1) → (Fr [39, 49] hi hk) → (FF 39 [10, 11, 12, 13, 14, 15, 16, 24] hi hk) → ((601 - hk 39 10).toNat) < N → Z kX8_sumHere Q 9 [(0, AR 40)] [] hk := by
      intro N
      induction N with
      | zero => intro hk _ _ _ _ _; exact absurd (by assumption) (Nat.not_lt_zero _)
      | succ N ih9 =>
        intro hk i1 i2 frlhk ffl39hk hm9
        obtain ⟨c2, n, g, tk, ck, gs, gb, gd⟩ := i1
        have c24k := ck.1
        have cmk := tk.2.1
        refine z_aload_n (pc := 9) (x := 40) dX8_sumHere_9 rfl 0 rfl ?_
        refine z_bipush (pc := 10) (v := 43) dX8_sumHere_10 (by decide +kernel) ?_
        refine z_callV (pc := 12) (kc := kX8_isSign) (n := 1) (pl := 39) (ci := 7) (C := RX8) (As := [AI 43]) (stk := []) ct_X8_isSign (gdV rfl rfl (iw30 _ (List.mem_of_getElem? (i := 6) rfl)) (iw30 _ (List.mem_of_getElem? (i := 7) rfl)) (iw30 _ (List.mem_of_getElem? (i := 8) rfl)) (iw1 _ (List.mem_of_getElem? (i := 5) rfl)) (iw30 _ (List.mem_of_getElem? (i := 9) rfl))) rfl ⟨rfl, rfl⟩ (by decide +kernel) ⟨by decide, by decide⟩ (by decide) rfl rfl dX8_sumHere_12 rfl rfl (Nat.le_of_ble_eq_true rfl) ?_
        refine ⟨_, rfl, by omega, fun v4 ev4 => ?_⟩
        have wv4 := isw ev4 (tk.sg 4 (by decide) (by decide))
        refine z_if_ne (pc := 15) (tgt := 27) dX8_sumHere_15 (by decide) ⟨by omega, by omega⟩ (fun c5 => ?_) (fun c5 => ?_)
        · refine z_aload_n (pc := 27) (x := 40) dX8_sumHere_27 rfl 0 rfl ?_
          refine z_bipush (pc := 28) (v := 43) dX8_sumHere_28 (by decide +kernel) ?_
          refine z_callV (pc := 30) (kc := kX8_isSign) (n := 1) (pl := 39) (ci := 7) (C := RX8) (As := [AI 43]) (stk := []) ct_X8_isSign (gdV rfl rfl (iw30 _ (List.mem_of_getElem? (i := 6) rfl)) (iw30 _ (List.mem_of_getElem? (i := 7) rfl)) (iw30 _ (List.mem_of_getElem? (i := 8) rfl)) (iw1 _ (List.mem_of_getElem? (i := 5) rfl)) (iw30 _ (List.mem_of_getElem? (i := 9) rfl))) rfl ⟨rfl, rfl⟩ (by decide +kernel) ⟨by decide, by decide⟩ (by decide) rfl rfl dX8_sumHere_30 rfl rfl (Nat.le_of_ble_eq_true rfl) ?_
          refine ⟨_, rfl, by omega, fun v6 ev6 => ?_⟩
          have wv6 := isw ev6 (tk.sg 4 (by decide) (by decide))
          refine z_if_eq (pc := 33) (tgt := 40) dX8_sumHere_33 (by decide) ⟨by omega, by omega⟩ (fun c7 => ?_) (fun c7 => ?_)
          · refine z_iconst (pc := 40) (v := 3) dX8_sumHere_40 rfl ?_
            refine z_istore_n (pc := 41) (lv' := [(1, AI 3), (0, AR 40)]) dX8_sumHere_41 rfl (by decide) rfl ?_
            refine z_aload_n (pc := 42) (x := 40) dX8_sumHere_42 rfl 1 rfl ?_
            refine z_callV (pc := 43) (kc := kX8_go) (n := 0) (pl := 39) (ci := 7) (C := RX8) (As := []) (stk := []) ct_X8_go2 (gdV rfl rfl (iw27 _ (List.mem_of_getElem? (i := 11) rfl)) (iw27 _ (List.mem_of_getElem? (i := 12) rfl)) (iw27 _ (List.mem_of_getElem? (i := 13) rfl)) (iw1 _ (List.mem_of_getElem? (i := 5) rfl)) (iw27 _ (List.mem_of_getElem? (i := 14) rfl))) rfl ⟨rfl, rfl⟩ (by decide +kernel) ⟨by decide, by decide⟩ (by decide) rfl rfl dX8_sumHere_43 rfl rfl (Nat.le_of_ble_eq_true rfl) ?_
            refine ⟨S, P, V, st, m, c2, rfl, ⟨tk, by omega, by omega⟩, fun h8 eh8 => ?_⟩
            have frh8 : Fr [39, 49] hi h8 := (Fr.call frlhk eh8.1 (by decide))
            have ff39h8 : FF 39 [10, 11, 12, 13, 14, 15, 16, 24] hi h8 := FF.call ffl39hk (eh8.2.1) (by decide)
            have th8 : TM h8 S P V st m (c2 + 1) := eh8.2.2
            refine z_aload_n (pc := 46) (x := 40) dX8_sumHere_46 rfl 1 rfl ?_
            refine z_callV (pc := 47) (kc := kX8_valueHere) (n := 0) (pl := 39) (ci := 7) (C := RX8) (As := []) (stk := []) ct_X8_valueHere (gdV rfl rfl (iw36 _ (List.mem_of_getElem? (i := 21) rfl)) (iw36 _ (List.mem_of_getElem? (i := 22) rfl)) (iw36 _ (List.mem_of_getElem? (i := 23) rfl)) (iw1 _ (List.mem_of_getElem? (i := 5) rfl)) (iw37 _ (List.mem_of_getElem? (i := 0) rfl))) rfl ⟨rfl, rfl⟩ (by decide +kernel) ⟨by decide, by decide⟩ (by decide) rfl rfl dX8_sumHere_47 rfl rfl (Nat.le_of_ble_eq_true rfl) ?_
            refine ⟨S, P, V, st, m, ((c2 + 1)), (g :: G), rfl, ⟨th8, by first | assumption | (rw [(by rw [(eh8.2.1 15 (by decide) : h8 39 15 = hk 39 15)] : h8 39 15 = hk 39 15)]; assumption), by rw [(by rw [(eh8.2.1 28 (by decide) : h8 39 28 = hk 39 28), (ffl39hk 28 (by decide) : hk 39 28 = hi 39 28)] : h8 39 28 = hi 39 28)]; exact ho, (ck.kp (by rw [(eh8.1 49 (by decide) : h8 49 = hk 49)]) (by rw [(eh8.2.1 24 (by decide) : h8 39 24 = hk 39 24)])), by rw [(by rw [(eh8.2.1 24 (by decide) : h8 39 24 = hk 39 24)] : h8 39 24 = hk 39 24)]; omega⟩, fun v9 h10 eh10 => ?_⟩
            have frh10 : Fr [39, 49] hi h10 := (Fr.call frh8 eh10.1 (by decide))
            have ff39h10 : FF 39 [10, 11, 12, 13, 14, 15, 16, 24] hi h10 := FF.call ff39h8 (eh10.2.1) (by decide)
            rw [(eh8.2.1 28 (by decide) : h8 39 28 = hk 39 28), (ffl39hk 28 (by decide) : hk 39 28 = hi 39 28)] at eh10
            rw [(eh8.2.1 24 (by decide) : h8 39 24 = hk 39 24)] at eh10
            refine z_if_ne (pc := 50) (tgt := 55) dX8_sumHere_50 (by decide) ⟨by omega, by omega⟩ (fun c11 => ?_) (fun c11 => ?_)
            · obtain ⟨-, gh10, gvh10, th10, gch10, gnh10, fh10, gdh10⟩ := (eh10.2.2).resolve_right (fun q => absurd q.1 (by omega))
              have gvL := gvh10
              have gcL := gch10
              have gdL := gdh10
              have gnL := gnh10
              refine z_aload_n (pc := 55) (x := 40) dX8_sumHere_55 rfl 1 rfl ?_
              refine z_iload_n (pc := 56) dX8_sumHere_56 rfl 0 rfl ?_
              refine z_iconst (pc := 57) (v := 0) dX8_sumHere_57 rfl ?_
              refine z_callV (pc := 58) (kc := kX8_code) (n := 2) (pl := 39) (ci := 7) (C := RX8) (As := [AI 3, AI 0]) (stk := []) ct_X8_code (gdV rfl rfl (iw37 _ (List.mem_of_getElem? (i := 1) rfl)) (iw37 _ (List.mem_of_getElem? (i := 2) rfl)) (iw37 _ (List.mem_of_getElem? (i := 3) rfl)) (iw1 _ (List.mem_of_getElem? (i := 5) rfl)) (iw37 _ (List.mem_of_getElem? (i := 4) rfl))) rfl ⟨rfl, rfl⟩ (by decide +kernel) ⟨by decide, by decide⟩ (by decide) rfl rfl dX8_sumHere_58 rfl rfl (Nat.le_of_ble_eq_true rfl) ?_
              refine ⟨_, _, rfl, ⟨by have := gcL.1; omega, by decide, by decide⟩, fun h12 eh12 => ?_⟩
              have frh12 : Fr [39, 49] hi h12 := (Fr.call frh10 eh12.1 (by decide))
              have ff39h12 : FF 39 [10, 11, 12, 13, 14, 15, 16, 24] hi h12 := FF.call ff39h10 (eh12.2.1) (by decide)
              have th12 : TM h12 S P V st m ((c2 + 1) + 1) := TM.fr th10 eh12.1 eh12.2.1 (by decide) (by decide)
              have cg4 := gcL.code (h2 := h12) (x := 1000 * 3) (by rw [eh12.2.2.1]; exact updI_cn rfl (by omega)) (by rw [eh12.2.2.2]) (okX_o (by decide))
              rw [apC_o (by decide)] at cg4
              have w24 := eh12.2.2.2
              refine z_goto (pc := 61) (tgt := 9) dX8_sumHere_61 (by decide) ?_
              refine z_sub (lv' := [(0, AR 40)]) [1] rfl ?_
              exact ih9 h12 (by first | exact ⟨c2 + 1 + 1, n - 1, bin 2 g _, th12, cg4, (gs.trans (smR_inP (by omega) (by omega) gvL)), by omega, QD.bin gd gdL⟩ | exact ⟨c2 + 1 + 1, n - 1, bin 3 g _, th12, cg4, (gs.trans (smR_inM (by omega) (by omega) gvL)), by omega, QD.bin gd gdL⟩) (by first | assumption | (rw [(by rw [(eh12.2.1 15 (by decide) : h12 39 15 = h10 39 15)] : h12 39 15 = h10 39 15)]; assumption)) (frh12) (ff39h12) (by have := TM.adv tk th12 (by omega); omega)
            · obtain ⟨-, gvh10, xh10⟩ := (eh10.2.2).resolve_left (fun q => absurd q.1 (by omega))
              have gvL := gvh10
              refine z_iconst (pc := 53) (v := 0) dX8_sumHere_53 rfl ?_
              refine z_zret (pc := 54) rfl (by decide) dX8_sumHere_54 ?_
              exact hQ 0 h10 ⟨frh10, ff39h10, by first | exact Or.inr ⟨rfl, _, sumF_bad gvL, xh10⟩ | exact Or.inr ⟨rfl, _, gs.trans (smR_bad (by omega) (by omega) gvL), xh10⟩ | exact Or.inl ⟨rfl, c2, g, gs.trans (smR_out n (by omega)), tk, ck, by omega, i2, gd⟩⟩
          · refine z_iconst (pc := 36) (v := 2) dX8_sumHere_36 rfl ?_
            refine z_goto (pc := 37) (tgt := 41) dX8_sumHere_37 (by decide) ?_
            refine z_istore_n (pc := 41) (lv' := [(1, AI 2), (0, AR 40)]) dX8_sumHere_41 rfl (by decide) rfl ?_
            refine z_aload_n (pc := 42) (x := 40) dX8_sumHere_42 rfl 1 rfl ?_
            refine z_callV (pc := 43) (kc := kX8_go) (n := 0) (pl := 39) (ci := 7) (C := RX8) (As := []) (stk := []) ct_X8_go2 (gdV rfl rfl (iw27 _ (List.mem_of_getElem? (i := 11) rfl)) (iw27 _ (List.mem_of_getElem? (i := 12) rfl)) (iw27 _ (List.mem_of_getElem? (i := 13) rfl)) (iw1 _ (List.mem_of_getElem? (i := 5) rfl)) (iw27 _ (List.mem_of_getElem? (i := 14) rfl))) rfl ⟨rfl, rfl⟩ (by decide +kernel) ⟨by decide, by decide⟩ (by decide) rfl rfl dX8_sumHere_43 rfl rfl (Nat.le_of_ble_eq_true rfl) ?_
            refine ⟨S, P, V, st, m, c2, rfl, ⟨tk, by omega, by omega⟩, fun h13 eh13 => ?_⟩
            have frh13 : Fr [39, 49] hi h13 := (Fr.call frlhk eh13.1 (by decide))
            have ff39h13 : FF 39 [10, 11, 12, 13, 14, 15, 16, 24] hi h13 := FF.call ffl39hk (eh13.2.1) (by decide)
            have th13 : TM h13 S P V st m (c2 + 1) := eh13.2.2
            refine z_aload_n (pc := 46) (x := 40) dX8_sumHere_46 rfl 1 rfl ?_
            refine z_callV (pc := 47) (kc := kX8_valueHere) (n := 0) (pl := 39) (ci := 7) (C := RX8) (As := []) (stk := []) ct_X8_valueHere (gdV rfl rfl (iw36 _ (List.mem_of_getElem? (i := 21) rfl)) (iw36 _ (List.mem_of_getElem? (i := 22) rfl)) (iw36 _ (List.mem_of_getElem? (i := 23) rfl)) (iw1 _ (List.mem_of_getElem? (i := 5) rfl)) (iw37 _ (List.mem_of_getElem? (i := 0) rfl))) rfl ⟨rfl, rfl⟩ (by decide +kernel) ⟨by decide, by decide⟩ (by decide) rfl rfl dX8_sumHere_47 rfl rfl (Nat.le_of_ble_eq_true rfl) ?_
            refine ⟨S, P, V, st, m, ((c2 + 1)), (g :: G), rfl, ⟨th13, by first | assumption | (rw [(by rw [(eh13.2.1 15 (by decide) : h13 39 15 = hk 39 15)] : h13 39 15 = hk 39 15)]; assumption), by rw [(by rw [(eh13.2.1 28 (by decide) : h13 39 28 = hk 39 28), (ffl39hk 28 (by decide) : hk 39 28 = hi 39 28)] : h13 39 28 = hi 39 28)]; exact ho, (ck.kp (by rw [(eh13.1 49 (by decide) : h13 49 = hk 49)]) (by rw [(eh13.2.1 24 (by decide) : h13 39 24 = hk 39 24)])), by rw [(by rw [(eh13.2.1 24 (by decide) : h13 39 24 = hk 39 24)] : h13 39 24 = hk 39 24)]; omega⟩, fun v14 h15 eh15 => ?_⟩
            have frh15 : Fr [39, 49] hi h15 := (Fr.call frh13 eh15.1 (by decide))
            have ff39h15 : FF 39 [10, 11, 12, 13, 14, 15, 16, 24] hi h15 := FF.call ff39h13 (eh15.2.1) (by decide)
            rw [(eh13.2.1 28 (by decide) : h13 39 28 = hk 39 28), (ffl39hk 28 (by decide) : hk 39 28 = hi 39 28)] at eh15
            rw [(eh13.2.1 24 (by decide) : h13 39 24 = hk 39 24)] at eh15
            refine z_if_ne (pc := 50) (tgt := 55) dX8_sumHere_50 (by decide) ⟨by omega, by omega⟩ (fun c16 => ?_) (fun c16 => ?_)
            · obtain ⟨-, gh15, gvh15, th15, gch15, gnh15, fh15, gdh15⟩ := (eh15.2.2).resolve_right (fun q => absurd q.1 (by omega))
              have gvL := gvh15
              have gcL := gch15
              have gdL := gdh15
              have gnL := gnh15
              refine z_aload_n (pc := 55) (x := 40) dX8_sumHere_55 rfl 1 rfl ?_
              refine z_iload_n (pc := 56) dX8_sumHere_56 rfl 0 rfl ?_
              refine z_iconst (pc := 57) (v := 0) dX8_sumHere_57 rfl ?_
              refine z_callV (pc := 58) (kc := kX8_code) (n := 2) (pl := 39) (ci := 7) (C := RX8) (As := [AI 2, AI 0]) (stk := []) ct_X8_code (gdV rfl rfl (iw37 _ (List.mem_of_getElem? (i := 1) rfl)) (iw37 _ (List.mem_of_getElem? (i := 2) rfl)) (iw37 _ (List.mem_of_getElem? (i := 3) rfl)) (iw1 _ (List.mem_of_getElem? (i := 5) rfl)) (iw37 _ (List.mem_of_getElem? (i := 4) rfl))) rfl ⟨rfl, rfl⟩ (by decide +kernel) ⟨by decide, by decide⟩ (by decide) rfl rfl dX8_sumHere_58 rfl rfl (Nat.le_of_ble_eq_true rfl) ?_
              refine ⟨_, _, rfl, ⟨by have := gcL.1; omega, by decide, by decide⟩, fun h17 eh17 => ?_⟩
              have frh17 : Fr [39, 49] hi h17 := (Fr.call frh15 eh17.1 (by decide))
              have ff39h17 : FF 39 [10, 11, 12, 13, 14, 15, 16, 24] hi h17 := FF.call ff39h15 (eh17.2.1) (by decide)
              have th17 : TM h17 S P V st m ((c2 + 1) + 1) := TM.fr th15 eh17.1 eh17.2.1 (by decide) (by decide)
              have cg4 := gcL.code (h2 := h17) (x := 1000 * 2) (by rw [eh17.2.2.1]; exact updI_cn rfl (by omega)) (by rw [eh17.2.2.2]) (okX_o (by decide))
              rw [apC_o (by decide)] at cg4
              have w24 := eh17.2.2.2
              refine z_goto (pc := 61) (tgt := 9) dX8_sumHere_61 (by decide) ?_
              refine z_sub (lv' := [(0, AR 40)]) [1] rfl ?_
              exact ih9 h17 (by first | exact ⟨c2 + 1 + 1, n - 1, bin 2 g _, th17, cg4, (gs.trans (smR_inP (by omega) (by omega) gvL)), by omega, QD.bin gd gdL⟩ | exact ⟨c2 + 1 + 1, n - 1, bin 3 g _, th17, cg4, (gs.trans (smR_inM (by omega) (by omega) gvL)), by omega, QD.bin gd gdL⟩) (by first | assumption | (rw [(by rw [(eh17.2.1 15 (by decide) : h17 39 15 = h15 39 15)] : h17 39 15 = h15 39 15)]; assumption)) (frh17) (ff39h17) (by have := TM.adv tk th17 (by omega); omega)
            · obtain ⟨-, gvh15, xh15⟩ := (eh15.2.2).resolve_left (fun q => absurd q.1 (by omega))
              have gvL := gvh15
              refine z_iconst (pc := 53) (v := 0) dX8_sumHere_53 rfl ?_
              refine z_zret (pc := 54) rfl (by decide) dX8_sumHere_54 ?_
              exact hQ 0 h15 ⟨frh15, ff39h15, by first | exact Or.inr ⟨rfl, _, sumF_bad gvL, xh15⟩ | exact Or.inr ⟨rfl, _, gs.trans (smR_bad (by omega) (by omega) gvL), xh15⟩ | exact Or.inl ⟨rfl, c2, g, gs.trans (smR_out n (by omega)), tk, ck, by omega, i2, gd⟩⟩
        · refine z_aload_n (pc := 18) (x := 40) dX8_sumHere_18 rfl 0 rfl ?_
          refine z_bipush (pc := 19) (v := 45) dX8_sumHere_19 (by decide +kernel) ?_
          refine z_callV (pc := 21) (kc := kX8_isSign) (n := 1) (pl := 39) (ci := 7) (C := RX8) (As := [AI 45]) (stk := []) ct_X8_isSign (gdV rfl rfl (iw30 _ (List.mem_of_getElem? (i := 6) rfl)) (iw30 _ (List.mem_of_getElem? (i := 7) rfl)) (iw30 _ (List.mem_of_getElem? (i := 8) rfl)) (iw1 _ (List.mem_of_getElem? (i := 5) rfl)) (iw30 _ (List.mem_of_getElem? (i := 9) rfl))) rfl ⟨rfl, rfl⟩ (by decide +kernel) ⟨by decide, by decide⟩ (by decide) rfl rfl dX8_sumHere_21 rfl rfl (Nat.le_of_ble_eq_true rfl) ?_
          refine ⟨_, rfl, by omega, fun v18 ev18 => ?_⟩
          have wv18 := isw ev18 (tk.sg 5 (by decide) (by decide))
          refine z_if_eq (pc := 24) (tgt := 64) dX8_sumHere_24 (by decide) ⟨by omega, by omega⟩ (fun c19 => ?_) (fun c19 => ?_)
          · refine z_iconst (pc := 64) (v := 1) dX8_sumHere_64 rfl ?_
            refine z_zret (pc := 65) rfl (by decide) dX8_sumHere_65 ?_
            exact hQ 1 hk ⟨frlhk, ffl39hk, by first | exact Or.inr ⟨rfl, _, sumF_bad gvL, xhk⟩ | exact Or.inr ⟨rfl, _, gs.trans (smR_bad (by omega) (by omega) gvL), xhk⟩ | exact Or.inl ⟨rfl, c2, g, gs.trans (smR_out n (by omega)), tk, ck, by omega, i2, gd⟩⟩
          · refine z_aload_n (pc := 27) (x := 40) dX8_sumHere_27 rfl 0 rfl ?_
            refine z_bipush (pc := 28) (v := 43) dX8_sumHere_28 (by decide +kernel) ?_
            refine z_callV (pc := 30) (kc := kX8_isSign) (n := 1) (pl := 39) (ci := 7) (C := RX8) (As := [AI 43]) (stk := []) ct_X8_isSign (gdV rfl rfl (iw30 _ (List.mem_of_getElem? (i := 6) rfl)) (iw30 _ (List.mem_of_getElem? (i := 7) rfl)) (iw30 _ (List.mem_of_getElem? (i := 8) rfl)) (iw1 _ (List.mem_of_getElem? (i := 5) rfl)) (iw30 _ (List.mem_of_getElem? (i := 9) rfl))) rfl ⟨rfl, rfl⟩ (by decide +kernel) ⟨by decide, by decide⟩ (by decide) rfl rfl dX8_sumHere_30 rfl rfl (Nat.le_of_ble_eq_true rfl) ?_
            refine ⟨_, rfl, by omega, fun v20 ev20 => ?_⟩
            have wv20 := isw ev20 (tk.sg 4 (by decide) (by decide))
            refine z_if_eq (pc := 33) (tgt := 40) dX8_sumHere_33 (by decide) ⟨by omega, by omega⟩ (fun c21 => ?_) (fun c21 => ?_)
            · refine z_iconst (pc := 40) (v := 3) dX8_sumHere_40 rfl ?_
              refine z_istore_n (pc := 41) (lv' := [(1, AI 3), (0, AR 40)]) dX8_sumHere_41 rfl (by decide) rfl ?_
              refine z_aload_n (pc := 42) (x := 40) dX8_sumHere_42 rfl 1 rfl ?_
              refine z_callV (pc := 43) (kc := kX8_go) (n := 0) (pl := 39) (ci := 7) (C := RX8) (As := []) (stk := []) ct_X8_go2 (gdV rfl rfl (iw27 _ (List.mem_of_getElem? (i := 11) rfl)) (iw27 _ (List.mem_of_getElem? (i := 12) rfl)) (iw27 _ (List.mem_of_getElem? (i := 13) rfl)) (iw1 _ (List.mem_of_getElem? (i := 5) rfl)) (iw27 _ (List.mem_of_getElem? (i := 14) rfl))) rfl ⟨rfl, rfl⟩ (by decide +kernel) ⟨by decide, by decide⟩ (by decide) rfl rfl dX8_sumHere_43 rfl rfl (Nat.le_of_ble_eq_true rfl) ?_
              refine ⟨S, P, V, st, m, c2, rfl, ⟨tk, by omega, by omega⟩, fun h22 eh22 => ?_⟩
              have frh22 : Fr [39, 49] hi h22 := (Fr.call frlhk eh22.1 (by decide))
              have ff39h22 : FF 39 [10, 11, 12, 13, 14, 15, 16, 24] hi h22 := FF.call ffl39hk (eh22.2.1) (by decide)
              have th22 : TM h22 S P V st m (c2 + 1) := eh22.2.2
              refine z_aload_n (pc := 46) (x := 40) dX8_sumHere_46 rfl 1 rfl ?_
              refine z_callV (pc := 47) (kc := kX8_valueHere) (n := 0) (pl := 39) (ci := 7) (C := RX8) (As := []) (stk := []) ct_X8_valueHere (gdV rfl rfl (iw36 _ (List.mem_of_getElem? (i := 21) rfl)) (iw36 _ (List.mem_of_getElem? (i := 22) rfl)) (iw36 _ (List.mem_of_getElem? (i := 23) rfl)) (iw1 _ (List.mem_of_getElem? (i := 5) rfl)) (iw37 _ (List.mem_of_getElem? (i := 0) rfl))) rfl ⟨rfl, rfl⟩ (by decide +kernel) ⟨by decide, by decide⟩ (by decide) rfl rfl dX8_sumHere_47 rfl rfl (Nat.le_of_ble_eq_true rfl) ?_
              refine ⟨S, P, V, st, m, ((c2 + 1)), (g :: G), rfl, ⟨th22, by first | assumption | (rw [(by rw [(eh22.2.1 15 (by decide) : h22 39 15 = hk 39 15)] : h22 39 15 = hk 39 15)]; assumption), by rw [(by rw [(eh22.2.1 28 (by decide) : h22 39 28 = hk 39 28), (ffl39hk 28 (by decide) : hk 39 28 = hi 39 28)] : h22 39 28 = hi 39 28)]; exact ho, (ck.kp (by rw [(eh22.1 49 (by decide) : h22 49 = hk 49)]) (by rw [(eh22.2.1 24 (by decide) : h22 39 24 = hk 39 24)])), by rw [(by rw [(eh22.2.1 24 (by decide) : h22 39 24 = hk 39 24)] : h22 39 24 = hk 39 24)]; omega⟩, fun v23 h24 eh24 => ?_⟩
              have frh24 : Fr [39, 49] hi h24 := (Fr.call frh22 eh24.1 (by decide))
              have ff39h24 : FF 39 [10, 11, 12, 13, 14, 15, 16, 24] hi h24 := FF.call ff39h22 (eh24.2.1) (by decide)
              rw [(eh22.2.1 28 (by decide) : h22 39 28 = hk 39 28), (ffl39hk 28 (by decide) : hk 39 28 = hi 39 28)] at eh24
              rw [(eh22.2.1 24 (by decide) : h22 39 24 = hk 39 24)] at eh24
              refine z_if_ne (pc := 50) (tgt := 55) dX8_sumHere_50 (by decide) ⟨by omega, by omega⟩ (fun c25 => ?_) (fun c25 => ?_)
              · obtain ⟨-, gh24, gvh24, th24, gch24, gnh24, fh24, gdh24⟩ := (eh24.2.2).resolve_right (fun q => absurd q.1 (by omega))
                have gvL := gvh24
                have gcL := gch24
                have gdL := gdh24
                have gnL := gnh24
                refine z_aload_n (pc := 55) (x := 40) dX8_sumHere_55 rfl 1 rfl ?_
                refine z_iload_n (pc := 56) dX8_sumHere_56 rfl 0 rfl ?_
                refine z_iconst (pc := 57) (v := 0) dX8_sumHere_57 rfl ?_
                refine z_callV (pc := 58) (kc := kX8_code) (n := 2) (pl := 39) (ci := 7) (C := RX8) (As := [AI 3, AI 0]) (stk := []) ct_X8_code (gdV rfl rfl (iw37 _ (List.mem_of_getElem? (i := 1) rfl)) (iw37 _ (List.mem_of_getElem? (i := 2) rfl)) (iw37 _ (List.mem_of_getElem? (i := 3) rfl)) (iw1 _ (List.mem_of_getElem? (i := 5) rfl)) (iw37 _ (List.mem_of_getElem? (i := 4) rfl))) rfl ⟨rfl, rfl⟩ (by decide +kernel) ⟨by decide, by decide⟩ (by decide) rfl rfl dX8_sumHere_58 rfl rfl (Nat.le_of_ble_eq_true rfl) ?_
                refine ⟨_, _, rfl, ⟨by have := gcL.1; omega, by decide, by decide⟩, fun h26 eh26 => ?_⟩
                have frh26 : Fr [39, 49] hi h26 := (Fr.call frh24 eh26.1 (by decide))
                have ff39h26 : FF 39 [10, 11, 12, 13, 14, 15, 16, 24] hi h26 := FF.call ff39h24 (eh26.2.1) (by decide)
                have th26 : TM h26 S P V st m ((c2 + 1) + 1) := TM.fr th24 eh26.1 eh26.2.1 (by decide) (by decide)
                have cg4 := gcL.code (h2 := h26) (x := 1000 * 3) (by rw [eh26.2.2.1]; exact updI_cn rfl (by omega)) (by rw [eh26.2.2.2]) (okX_o (by decide))
                rw [apC_o (by decide)] at cg4
                have w24 := eh26.2.2.2
                refine z_goto (pc := 61) (tgt := 9) dX8_sumHere_61 (by decide) ?_
                refine z_sub (lv' := [(0, AR 40)]) [1] rfl ?_
                exact ih9 h26 (by first | exact ⟨c2 + 1 + 1, n - 1, bin 2 g _, th26, cg4, (gs.trans (smR_inP (by omega) (by omega) gvL)), by omega, QD.bin gd gdL⟩ | exact ⟨c2 + 1 + 1, n - 1, bin 3 g _, th26, cg4, (gs.trans (smR_inM (by omega) (by omega) gvL)), by omega, QD.bin gd gdL⟩) (by first | assumption | (rw [(by rw [(eh26.2.1 15 (by decide) : h26 39 15 = h24 39 15)] : h26 39 15 = h24 39 15)]; assumption)) (frh26) (ff39h26) (by have := TM.adv tk th26 (by omega); omega)
              · obtain ⟨-, gvh24, xh24⟩ := (eh24.2.2).resolve_left (fun q => absurd q.1 (by omega))
                have gvL := gvh24
                refine z_iconst (pc := 53) (v := 0) dX8_sumHere_53 rfl ?_
                refine z_zret (pc := 54) rfl (by decide) dX8_sumHere_54 ?_
                exact hQ 0 h24 ⟨frh24, ff39h24, by first | exact Or.inr ⟨rfl, _, sumF_bad gvL, xh24⟩ | exact Or.inr ⟨rfl, _, gs.trans (smR_bad (by omega) (by omega) gvL), xh24⟩ | exact Or.inl ⟨rfl, c2, g, gs.trans (smR_out n (by omega)), tk, ck, by omega, i2, gd⟩⟩
            · refine z_iconst (pc := 36) (v := 2) dX8_sumHere_36 rfl ?_
              refine z_goto (pc := 37) (tgt := 41) dX8_sumHere_37 (by decide) ?_
              refine z_istore_n (pc := 41) (lv' := [(1, AI 2), (0, AR 40)]) dX8_sumHere_41 rfl (by decide) rfl ?_
              refine z_aload_n (pc := 42) (x := 40) dX8_sumHere_42 rfl 1 rfl ?_
              refine z_callV (pc := 43) (kc := kX8_go) (n := 0) (pl := 39) (ci := 7) (C := RX8) (As := []) (stk := []) ct_X8_go2 (gdV rfl rfl (iw27 _ (List.mem_of_getElem? (i := 11) rfl)) (iw27 _ (List.mem_of_getElem? (i := 12) rfl)) (iw27 _ (List.mem_of_getElem? (i := 13) rfl)) (iw1 _ (List.mem_of_getElem? (i := 5) rfl)) (iw27 _ (List.mem_of_getElem? (i := 14) rfl))) rfl ⟨rfl, rfl⟩ (by decide +kernel) ⟨by decide, by decide⟩ (by decide) rfl rfl dX8_sumHere_43 rfl rfl (Nat.le_of_ble_eq_true rfl) ?_
              refine ⟨S, P, V, st, m, c2, rfl, ⟨tk, by omega, by omega⟩, fun h27 eh27 => ?_⟩
              have frh27 : Fr [39, 49] hi h27 := (Fr.call frlhk eh27.1 (by decide))
              have ff39h27 : FF 39 [10, 11, 12, 13, 14, 15, 16, 24] hi h27 := FF.call ffl39hk (eh27.2.1) (by decide)
              have th27 : TM h27 S P V st m (c2 + 1) := eh27.2.2
              refine z_aload_n (pc := 46) (x := 40) dX8_sumHere_46 rfl 1 rfl ?_
              refine z_callV (pc := 47) (kc := kX8_valueHere) (n := 0) (pl := 39) (ci := 7) (C := RX8) (As := []) (stk := []) ct_X8_valueHere (gdV rfl rfl (iw36 _ (List.mem_of_getElem? (i := 21) rfl)) (iw36 _ (List.mem_of_getElem? (i := 22) rfl)) (iw36 _ (List.mem_of_getElem? (i := 23) rfl)) (iw1 _ (List.mem_of_getElem? (i := 5) rfl)) (iw37 _ (List.mem_of_getElem? (i := 0) rfl))) rfl ⟨rfl, rfl⟩ (by decide +kernel) ⟨by decide, by decide⟩ (by decide) rfl rfl dX8_sumHere_47 rfl rfl (Nat.le_of_ble_eq_true rfl) ?_
              refine ⟨S, P, V, st, m, ((c2 + 1)), (g :: G), rfl, ⟨th27, by first | assumption | (rw [(by rw [(eh27.2.1 15 (by decide) : h27 39 15 = hk 39 15)] : h27 39 15 = hk 39 15)]; assumption), by rw [(by rw [(eh27.2.1 28 (by decide) : h27 39 28 = hk 39 28), (ffl39hk 28 (by decide) : hk 39 28 = hi 39 28)] : h27 39 28 = hi 39 28)]; exact ho, (ck.kp (by rw [(eh27.1 49 (by decide) : h27 49 = hk 49)]) (by rw [(eh27.2.1 24 (by decide) : h27 39 24 = hk 39 24)])), by rw [(by rw [(eh27.2.1 24 (by decide) : h27 39 24 = hk 39 24)] : h27 39 24 = hk 39 24)]; omega⟩, fun v28 h29 eh29 => ?_⟩
              have frh29 : Fr [39, 49] hi h29 := (Fr.call frh27 eh29.1 (by decide))
              have ff39h29 : FF 39 [10, 11, 12, 13, 14, 15, 16, 24] hi h29 := FF.call ff39h27 (eh29.2.1) (by decide)
              rw [(eh27.2.1 28 (by decide) : h27 39 28 = hk 39 28), (ffl39hk 28 (by decide) : hk 39 28 = hi 39 28)] at eh29
              rw [(eh27.2.1 24 (by decide) : h27 39 24 = hk 39 24)] at eh29
              refine z_if_ne (pc := 50) (tgt := 55) dX8_sumHere_50 (by decide) ⟨by omega, by omega⟩ (fun c30 => ?_) (fun c30 => ?_)
              · obtain ⟨-, gh29, gvh29, th29, gch29, gnh29, fh29, gdh29⟩ := (eh29.2.2).resolve_right (fun q => absurd q.1 (by omega))
                have gvL := gvh29
                have gcL := gch29
                have gdL := gdh29
                have gnL := gnh29
                refine z_aload_n (pc := 55) (x := 40) dX8_sumHere_55 rfl 1 rfl ?_
                refine z_iload_n (pc := 56) dX8_sumHere_56 rfl 0 rfl ?_
                refine z_iconst (pc := 57) (v := 0) dX8_sumHere_57 rfl ?_
                refine z_callV (pc := 58) (kc := kX8_code) (n := 2) (pl := 39) (ci := 7) (C := RX8) (As := [AI 2, AI 0]) (stk := []) ct_X8_code (gdV rfl rfl (iw37 _ (List.mem_of_getElem? (i := 1) rfl)) (iw37 _ (List.mem_of_getElem? (i := 2) rfl)) (iw37 _ (List.mem_of_getElem? (i := 3) rfl)) (iw1 _ (List.mem_of_getElem? (i := 5) rfl)) (iw37 _ (List.mem_of_getElem? (i := 4) rfl))) rfl ⟨rfl, rfl⟩ (by decide +kernel) ⟨by decide, by decide⟩ (by decide) rfl rfl dX8_sumHere_58 rfl rfl (Nat.le_of_ble_eq_true rfl) ?_
                refine ⟨_, _, rfl, ⟨by have := gcL.1; omega, by decide, by decide⟩, fun h31 eh31 => ?_⟩
                have frh31 : Fr [39, 49] hi h31 := (Fr.call frh29 eh31.1 (by decide))
                have ff39h31 : FF 39 [10, 11, 12, 13, 14, 15, 16, 24] hi h31 := FF.call ff39h29 (eh31.2.1) (by decide)
                have th31 : TM h31 S P V st m ((c2 + 1) + 1) := TM.fr th29 eh31.1 eh31.2.1 (by decide) (by decide)
                have cg4 := gcL.code (h2 := h31) (x := 1000 * 2) (by rw [eh31.2.2.1]; exact updI_cn rfl (by omega)) (by rw [eh31.2.2.2]) (okX_o (by decide))
                rw [apC_o (by decide)] at cg4
                have w24 := eh31.2.2.2
                refine z_goto (pc := 61) (tgt := 9) dX8_sumHere_61 (by decide) ?_
                refine z_sub (lv' := [(0, AR 40)]) [1] rfl ?_
                exact ih9 h31 (by first | exact ⟨c2 + 1 + 1, n - 1, bin 2 g _, th31, cg4, (gs.trans (smR_inP (by omega) (by omega) gvL)), by omega, QD.bin gd gdL⟩ | exact ⟨c2 + 1 + 1, n - 1, bin 3 g _, th31, cg4, (gs.trans (smR_inM (by omega) (by omega) gvL)), by omega, QD.bin gd gdL⟩) (by first | assumption | (rw [(by rw [(eh31.2.1 15 (by decide) : h31 39 15 = h29 39 15)] : h31 39 15 = h29 39 15)]; assumption)) (frh31) (ff39h31) (by have := TM.adv tk th31 (by omega); omega)
              · obtain ⟨-, gvh29, xh29⟩ := (eh29.2.2).resolve_left (fun q => absurd q.1 (by omega))
                have gvL := gvh29
                refine z_iconst (pc := 53) (v := 0) dX8_sumHere_53 rfl ?_
                refine z_zret (pc := 54) rfl (by decide) dX8_sumHere_54 ?_
                exact hQ 0 h29 ⟨frh29, ff39h29, by first | exact Or.inr ⟨rfl, _, sumF_bad gvL, xh29⟩ | exact Or.inr ⟨rfl, _, gs.trans (smR_bad (by omega) (by omega) gvL), xh29⟩ | exact Or.inl ⟨rfl, c2, g, gs.trans (smR_out n (by omega)), tk, ck, by omega, i2, gd⟩⟩
    exact J9 _ h2 (⟨c + 1, 700, _, th2, gcL, sumF_ok gvL, by omega, gdL⟩) (by first | assumption | (rw [(rfl : h2 39 15 = h2 39 15)]; assumption)) (frh2) (ff39h2) (Nat.lt_succ_self _)
  · obtain ⟨-, gvh2, xh2⟩ := (eh2.2.2).resolve_left (fun q => absurd q.1 (by omega))
    have gvL := gvh2
    refine z_iconst (pc := 7) (v := 0) dX8_sumHere_7 rfl ?_
    refine z_zret (pc := 8) rfl (by decide) dX8_sumHere_8 ?_
    exact hQ 0 h2 ⟨frh2, ff39h2, by first | exact Or.inr ⟨rfl, _, sumF_bad gvL, xh2⟩ | exact Or.inr ⟨rfl, _, gs.trans (smR_bad (by omega) (by omega) gvL), xh2⟩ | exact Or.inl ⟨rfl, c2, g, gs.trans (smR_out n (by omega)), tk, ck, by omega, i2, gd⟩⟩

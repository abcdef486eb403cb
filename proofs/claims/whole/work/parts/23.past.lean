abbrev kX1_insert : Kd := (cX1_insert, .code yX1_insert cX1_insert 8 none :: wsL_law0, rmL 2, RX1, none, 8)
theorem ct_X1_insert : Ct kX1_insert yX1_insert (fun a hi Q => ∃ x : Int, ∃ b : Int, ∃ d : Int, ∃ w : Int, a = [AR 2, AI x, AI b, AI d, AI w] ∧ ((0 ≤ hi 2 1 ∧ hi 2 1 < 40) ∧ inR x ∧ inR b ∧ inR d ∧ inR w) ∧ ∀ h2 : HI, (Fr [2] hi h2 ∧ (∃ (p : Int) (f2 : Nat → Int), h2 = hput hi 2 f2 ∧ Plc (hi 2) (hi 2 1) x b p ∧ InsAt (hi 2) f2 (hi 2 1) p x b d w)) → Q AU h2) := by
  refine Ct.of (ws' := _) (by decide +kernel) rfl rfl ?_
  intro a hi Q hT
  obtain ⟨x, b, d, w, rfl, hpre, hQ⟩ := hT
  refine ⟨Nat.le_of_ble_eq_true rfl, ?_⟩
  show Z kX1_insert Q 0 [(0, AR 2), (1, AI x), (2, AI b), (3, AI d), (4, AI w)] [] hi
  refine z_aload_n (pc := 0) (x := 2) dX1_insert_0 rfl 0 rfl ?_
  refine z_callV (pc := 1) (kc := kX1_size) (n := 0) (pl := 1) (ci := 1) (C := RX1) (As := []) (stk := []) ct_X1_size (gdV rfl rfl (iw7 _ (List.mem_of_getElem? (i := 1) rfl)) (iw7 _ (List.mem_of_getElem? (i := 2) rfl)) (iw7 _ (List.mem_of_getElem? (i := 3) rfl)) (iw1 _ (List.mem_of_getElem? (i := 15) rfl)) (iw7 _ (List.mem_of_getElem? (i := 4) rfl))) rfl ⟨rfl, rfl⟩ (by decide +kernel) ⟨by decide, by decide⟩ (by decide) rfl rfl dX1_insert_1 rfl rfl (Nat.le_of_ble_eq_true rfl) ?_
  refine ⟨rfl, trivial, fun v1 ev1 => ?_⟩
  refine z_istore (pc := 4) (lv' := [(5, AI v1), (0, AR 2), (1, AI x), (2, AI b), (3, AI d), (4, AI w)]) dX1_insert_4 (by decide) rfl ?_
  refine z_iload (pc := 6) dX1_insert_6 0 rfl ?_
  refine z_if_lt (pc := 8) (tgt := 18) dX1_insert_8 (by decide) ⟨by omega, by omega⟩ (fun c2 => ?_) (fun c2 => ?_)
  · refine z_vret (pc := 18) rfl dX1_insert_18 ?_
    exact hQ hi ⟨(Fr.rf), by first | (exfalso; omega) | exact ins_fin (n := v1) (by have q2 : k = v1 := (by omega); rw [← q2]; exact i1) ev1.1 (by subst_vars; simp only [hput_hput, hput_same]; first | done | rfl)⟩
  · refine z_iload (pc := 11) dX1_insert_11 0 rfl ?_
    refine z_bipush (pc := 13) (v := 40) dX1_insert_13 (by decide +kernel) ?_
    refine z_icmp_lt (pc := 15) (tgt := 19) dX1_insert_15 (by decide) ⟨by omega, by omega⟩ ⟨by decide, by decide⟩ (fun c3 => ?_) (fun c3 => ?_)
    · refine z_iconst (pc := 19) (v := 0) dX1_insert_19 rfl ?_
      refine z_istore (pc := 20) (lv' := [(6, AI 0), (5, AI v1), (0, AR 2), (1, AI x), (2, AI b), (3, AI d), (4, AI w)]) dX1_insert_20 (by decide) rfl ?_
      refine z_iconst (pc := 22) (v := 0) dX1_insert_22 rfl ?_
      refine z_istore (pc := 23) (lv' := [(7, AI 0), (6, AI 0), (5, AI v1), (0, AR 2), (1, AI x), (2, AI b), (3, AI d), (4, AI w)]) dX1_insert_23 (by decide) rfl ?_
      have J25 : ∀ (N : Nat) (p k : Int), (0 ≤ k ∧ k ≤ hi 2 1) → (Plc (hi 2) k x b p) → ((hi 2 1 - k).toNat) < N → Z kX1_insert Q 25 [(7, AI k), (6, AI p), (5, AI v1), (0, AR 2), (1, AI x), (2, AI b), (3, AI d), (4, AI w)] [] hi := by
        intro N
        induction N with
        | zero => intro p k _ _ _; exact absurd (by assumption) (Nat.not_lt_zero _)
        | succ N ih25 =>
          intro p k i0 i1 hm25
          obtain ⟨p0, p1, -⟩ := id i1
          refine z_iload (pc := 25) dX1_insert_25 0 rfl ?_
          refine z_iload (pc := 27) dX1_insert_27 2 rfl ?_
          refine z_icmp_ge (pc := 29) (tgt := 74) dX1_insert_29 (by decide) ⟨by omega, by omega⟩ ⟨by omega, by omega⟩ (fun c4 => ?_) (fun c4 => ?_)
          · refine z_iconst (pc := 74) (v := 2) dX1_insert_74 rfl ?_
            refine z_iconst (pc := 75) (v := 4) dX1_insert_75 rfl ?_
            refine z_iload (pc := 76) dX1_insert_76 1 rfl ?_
            refine z_imul (pc := 78) dX1_insert_78 (fun v5 ev5 => ?_)
            refine z_iadd (pc := 79) dX1_insert_79 (fun v6 ev6 => ?_)
            refine z_istore (pc := 80) (lv' := [(7, AI v6), (6, AI p), (5, AI v1), (0, AR 2), (1, AI x), (2, AI b), (3, AI d), (4, AI w)]) dX1_insert_80 (by decide) rfl ?_
            refine z_aload_n (pc := 82) (x := 2) dX1_insert_82 rfl 3 rfl ?_
            refine z_getR (pc := 83) (pl := 1) (f := 0) (ci := 1) (C := RX1) (T := TX1) (N := 1) hu_X1 (by decide) rfl rfl (by decide) rfl (List.mem_cons_of_mem _ (iw3 _ (List.mem_of_getElem? (i := 2) rfl))) rfl dX1_insert_83 ?_
            refine z_iload (pc := 86) dX1_insert_86 0 rfl ?_
            refine z_aload_n (pc := 88) (x := 2) dX1_insert_88 rfl 3 rfl ?_
            refine z_getR (pc := 89) (pl := 1) (f := 0) (ci := 1) (C := RX1) (T := TX1) (N := 1) hu_X1 (by decide) rfl rfl (by decide) rfl (List.mem_cons_of_mem _ (iw3 _ (List.mem_of_getElem? (i := 2) rfl))) rfl dX1_insert_89 ?_
            refine z_iload (pc := 92) dX1_insert_92 0 rfl ?_
            refine z_iconst (pc := 94) (v := 4) dX1_insert_94 rfl ?_
            refine z_iadd (pc := 95) dX1_insert_95 (fun v7 ev7 => ?_)
            refine z_iconst (pc := 96) (v := 4) dX1_insert_96 rfl ?_
            refine z_iload (pc := 97) dX1_insert_97 2 rfl ?_
            refine z_iload (pc := 99) dX1_insert_99 1 rfl ?_
            refine z_isub (pc := 101) dX1_insert_101 (fun v8 ev8 => ?_)
            refine z_imul (pc := 102) dX1_insert_102 (fun v9 ev9 => ?_)
            refine z_copy (pc := 103) (p1 := 2) (p2 := 2) (stk := []) (by decide) (by decide) rfl rfl (by decide) (by decide) ⟨by omega, by omega, by omega⟩ (by omega) (by omega) (List.mem_cons_of_mem _ (iw8 _ (List.mem_of_getElem? (i := 10) rfl))) (List.mem_cons_of_mem _ (iw8 _ (List.mem_of_getElem? (i := 11) rfl))) (List.mem_cons_of_mem _ (iw8 _ (List.mem_of_getElem? (i := 12) rfl))) (List.mem_cons_of_mem _ (iw8 _ (List.mem_of_getElem? (i := 13) rfl))) (by decide) (Nat.le_of_ble_eq_true rfl) dX1_insert_103 (fun h10 eh10 => ?_)
            have frh10 : Fr [2] hi h10 := (Fr.put (Fr.rf) eh10 (by decide))
            refine z_aload_n (pc := 106) (x := 2) dX1_insert_106 rfl 3 rfl ?_
            refine z_getR (pc := 107) (pl := 1) (f := 0) (ci := 1) (C := RX1) (T := TX1) (N := 1) hu_X1 (by decide) rfl rfl (by decide) rfl (List.mem_cons_of_mem _ (iw3 _ (List.mem_of_getElem? (i := 2) rfl))) rfl dX1_insert_107 ?_
            refine z_iconst (pc := 110) (v := 1) dX1_insert_110 rfl ?_
            refine z_iload (pc := 111) dX1_insert_111 2 rfl ?_
            refine z_iconst (pc := 113) (v := 1) dX1_insert_113 rfl ?_
            refine z_iadd (pc := 114) dX1_insert_114 (fun v11 ev11 => ?_)
            refine z_iast (pc := 115) (pl := 2) (by decide) rfl (by decide) (by decide) (by decide) ⟨by omega, by omega⟩ dX1_insert_115 (fun h12 eh12 => ?_)
            have frh12 : Fr [2] hi h12 := (Fr.put frh10 eh12 (by decide))
            refine z_aload_n (pc := 116) (x := 2) dX1_insert_116 rfl 3 rfl ?_
            refine z_getR (pc := 117) (pl := 1) (f := 0) (ci := 1) (C := RX1) (T := TX1) (N := 1) hu_X1 (by decide) rfl rfl (by decide) rfl (List.mem_cons_of_mem _ (iw3 _ (List.mem_of_getElem? (i := 2) rfl))) rfl dX1_insert_117 ?_
            refine z_iload (pc := 120) dX1_insert_120 0 rfl ?_
            refine z_iload_n (pc := 122) dX1_insert_122 rfl 4 rfl ?_
            refine z_iast (pc := 123) (pl := 2) (by decide) rfl (by decide) (by omega) (by omega) ⟨by omega, by omega⟩ dX1_insert_123 (fun h13 eh13 => ?_)
            have frh13 : Fr [2] hi h13 := (Fr.put frh12 eh13 (by decide))
            refine z_aload_n (pc := 124) (x := 2) dX1_insert_124 rfl 3 rfl ?_
            refine z_getR (pc := 125) (pl := 1) (f := 0) (ci := 1) (C := RX1) (T := TX1) (N := 1) hu_X1 (by decide) rfl rfl (by decide) rfl (List.mem_cons_of_mem _ (iw3 _ (List.mem_of_getElem? (i := 2) rfl))) rfl dX1_insert_125 ?_
            refine z_iload (pc := 128) dX1_insert_128 0 rfl ?_
            refine z_iconst (pc := 130) (v := 1) dX1_insert_130 rfl ?_
            refine z_iadd (pc := 131) dX1_insert_131 (fun v14 ev14 => ?_)
            refine z_iload_n (pc := 132) dX1_insert_132 rfl 5 rfl ?_
            refine z_iast (pc := 133) (pl := 2) (by decide) rfl (by decide) (by omega) (by omega) ⟨by omega, by omega⟩ dX1_insert_133 (fun h15 eh15 => ?_)
            have frh15 : Fr [2] hi h15 := (Fr.put frh13 eh15 (by decide))
            refine z_aload_n (pc := 134) (x := 2) dX1_insert_134 rfl 3 rfl ?_
            refine z_getR (pc := 135) (pl := 1) (f := 0) (ci := 1) (C := RX1) (T := TX1) (N := 1) hu_X1 (by decide) rfl rfl (by decide) rfl (List.mem_cons_of_mem _ (iw3 _ (List.mem_of_getElem? (i := 2) rfl))) rfl dX1_insert_135 ?_
            refine z_iload (pc := 138) dX1_insert_138 0 rfl ?_
            refine z_iconst (pc := 140) (v := 2) dX1_insert_140 rfl ?_
            refine z_iadd (pc := 141) dX1_insert_141 (fun v16 ev16 => ?_)
            refine z_iload_n (pc := 142) dX1_insert_142 rfl 6 rfl ?_
            refine z_iast (pc := 143) (pl := 2) (by decide) rfl (by decide) (by omega) (by omega) ⟨by omega, by omega⟩ dX1_insert_143 (fun h17 eh17 => ?_)
            have frh17 : Fr [2] hi h17 := (Fr.put frh15 eh17 (by decide))
            refine z_aload_n (pc := 144) (x := 2) dX1_insert_144 rfl 3 rfl ?_
            refine z_getR (pc := 145) (pl := 1) (f := 0) (ci := 1) (C := RX1) (T := TX1) (N := 1) hu_X1 (by decide) rfl rfl (by decide) rfl (List.mem_cons_of_mem _ (iw3 _ (List.mem_of_getElem? (i := 2) rfl))) rfl dX1_insert_145 ?_
            refine z_iload (pc := 148) dX1_insert_148 0 rfl ?_
            refine z_iconst (pc := 150) (v := 3) dX1_insert_150 rfl ?_
            refine z_iadd (pc := 151) dX1_insert_151 (fun v18 ev18 => ?_)
            refine z_iload (pc := 152) dX1_insert_152 7 rfl ?_
            refine z_iast (pc := 154) (pl := 2) (by decide) rfl (by decide) (by omega) (by omega) ⟨by omega, by omega⟩ dX1_insert_154 (fun h19 eh19 => ?_)
            have frh19 : Fr [2] hi h19 := (Fr.put frh17 eh19 (by decide))
            refine z_vret (pc := 155) rfl dX1_insert_155 ?_
            exact hQ h19 ⟨frh19, by first | (exfalso; omega) | exact ins_fin (n := v1) (by have q2 : k = v1 := (by omega); rw [← q2]; exact i1) ev1.1 (by subst_vars; simp only [hput_hput, hput_same]; first | done | rfl)⟩
          · refine z_aload_n (pc := 32) (x := 2) dX1_insert_32 rfl 3 rfl ?_
            refine z_iload (pc := 33) dX1_insert_33 0 rfl ?_
            refine z_callV (pc := 35) (kc := kX1_numberOf) (n := 1) (pl := 1) (ci := 1) (C := RX1) (As := [AI k]) (stk := []) ct_X1_numberOf (gdV rfl rfl (iw7 _ (List.mem_of_getElem? (i := 5) rfl)) (iw7 _ (List.mem_of_getElem? (i := 6) rfl)) (iw7 _ (List.mem_of_getElem? (i := 7) rfl)) (iw1 _ (List.mem_of_getElem? (i := 15) rfl)) (iw7 _ (List.mem_of_getElem? (i := 8) rfl))) rfl ⟨rfl, rfl⟩ (by decide +kernel) ⟨by decide, by decide⟩ (by decide) rfl rfl dX1_insert_35 rfl rfl (Nat.le_of_ble_eq_true rfl) ?_
            refine ⟨_, rfl, by omega, fun v20 ev20 => ?_⟩
            refine z_iload_n (pc := 38) dX1_insert_38 rfl 4 rfl ?_
            refine z_icmp_lt (pc := 39) (tgt := 62) dX1_insert_39 (by decide) ⟨by omega, by omega⟩ ⟨by omega, by omega⟩ (fun c21 => ?_) (fun c21 => ?_)
            · refine z_iload (pc := 62) dX1_insert_62 0 rfl ?_
              refine z_iconst (pc := 64) (v := 1) dX1_insert_64 rfl ?_
              refine z_iadd (pc := 65) dX1_insert_65 (fun v22 ev22 => ?_)
              refine z_istore (pc := 66) (lv' := [(6, AI v22), (7, AI k), (5, AI v1), (0, AR 2), (1, AI x), (2, AI b), (3, AI d), (4, AI w)]) dX1_insert_66 (by decide) rfl ?_
              refine z_iinc (pc := 68) (j := 1) (w := fun q => (7, AI q) :: [(6, AI v22), (5, AI v1), (0, AR 2), (1, AI x), (2, AI b), (3, AI d), (4, AI w)]) dX1_insert_68 rfl (by decide) (fun _ => rfl) (fun v23 ev23 => ?_)
              refine z_goto (pc := 71) (tgt := 25) dX1_insert_71 (by decide) ?_
              exact ih25 v22 v23 (by omega) (by first | exact plc_yes i0.1 (by omega) (by omega) (by omega) | exact plc_no (by omega) i1 (by omega)) (by omega)
            · refine z_aload_n (pc := 42) (x := 2) dX1_insert_42 rfl 3 rfl ?_
              refine z_iload (pc := 43) dX1_insert_43 0 rfl ?_
              refine z_callV (pc := 45) (kc := kX1_numberOf) (n := 1) (pl := 1) (ci := 1) (C := RX1) (As := [AI k]) (stk := []) ct_X1_numberOf (gdV rfl rfl (iw7 _ (List.mem_of_getElem? (i := 5) rfl)) (iw7 _ (List.mem_of_getElem? (i := 6) rfl)) (iw7 _ (List.mem_of_getElem? (i := 7) rfl)) (iw1 _ (List.mem_of_getElem? (i := 15) rfl)) (iw7 _ (List.mem_of_getElem? (i := 8) rfl))) rfl ⟨rfl, rfl⟩ (by decide +kernel) ⟨by decide, by decide⟩ (by decide) rfl rfl dX1_insert_45 rfl rfl (Nat.le_of_ble_eq_true rfl) ?_
              refine ⟨_, rfl, by omega, fun v24 ev24 => ?_⟩
              refine z_iload_n (pc := 48) dX1_insert_48 rfl 4 rfl ?_
              refine z_icmp_ne (pc := 49) (tgt := 68) dX1_insert_49 (by decide) ⟨by omega, by omega⟩ ⟨by omega, by omega⟩ (fun c25 => ?_) (fun c25 => ?_)
              · refine z_iinc (pc := 68) (j := 0) (w := fun q => (7, AI q) :: [(6, AI p), (5, AI v1), (0, AR 2), (1, AI x), (2, AI b), (3, AI d), (4, AI w)]) dX1_insert_68 rfl (by decide) (fun _ => rfl) (fun v26 ev26 => ?_)
                refine z_goto (pc := 71) (tgt := 25) dX1_insert_71 (by decide) ?_
                exact ih25 p v26 (by omega) (by first | exact plc_yes i0.1 (by omega) (by omega) (by omega) | exact plc_no (by omega) i1 (by omega)) (by omega)
              · refine z_aload_n (pc := 52) (x := 2) dX1_insert_52 rfl 3 rfl ?_
                refine z_iload (pc := 53) dX1_insert_53 0 rfl ?_
                refine z_callV (pc := 55) (kc := kX1_birthOf) (n := 1) (pl := 1) (ci := 1) (C := RX1) (As := [AI k]) (stk := []) ct_X1_birthOf (gdV rfl rfl (iw7 _ (List.mem_of_getElem? (i := 9) rfl)) (iw7 _ (List.mem_of_getElem? (i := 10) rfl)) (iw7 _ (List.mem_of_getElem? (i := 11) rfl)) (iw1 _ (List.mem_of_getElem? (i := 15) rfl)) (iw7 _ (List.mem_of_getElem? (i := 12) rfl))) rfl ⟨rfl, rfl⟩ (by decide +kernel) ⟨by decide, by decide⟩ (by decide) rfl rfl dX1_insert_55 rfl rfl (Nat.le_of_ble_eq_true rfl) ?_
                refine ⟨_, rfl, by omega, fun v27 ev27 => ?_⟩
                refine z_iload_n (pc := 58) dX1_insert_58 rfl 5 rfl ?_
                refine z_icmp_ge (pc := 59) (tgt := 68) dX1_insert_59 (by decide) ⟨by omega, by omega⟩ ⟨by omega, by omega⟩ (fun c28 => ?_) (fun c28 => ?_)
                · refine z_iinc (pc := 68) (j := 0) (w := fun q => (7, AI q) :: [(6, AI p), (5, AI v1), (0, AR 2), (1, AI x), (2, AI b), (3, AI d), (4, AI w)]) dX1_insert_68 rfl (by decide) (fun _ => rfl) (fun v29 ev29 => ?_)
                  refine z_goto (pc := 71) (tgt := 25) dX1_insert_71 (by decide) ?_
                  exact ih25 p v29 (by omega) (by first | exact plc_yes i0.1 (by omega) (by omega) (by omega) | exact plc_no (by omega) i1 (by omega)) (by omega)
                · refine z_iload (pc := 62) dX1_insert_62 0 rfl ?_
                  refine z_iconst (pc := 64) (v := 1) dX1_insert_64 rfl ?_
                  refine z_iadd (pc := 65) dX1_insert_65 (fun v30 ev30 => ?_)
                  refine z_istore (pc := 66) (lv' := [(6, AI v30), (7, AI k), (5, AI v1), (0, AR 2), (1, AI x), (2, AI b), (3, AI d), (4, AI w)]) dX1_insert_66 (by decide) rfl ?_
                  refine z_iinc (pc := 68) (j := 1) (w := fun q => (7, AI q) :: [(6, AI v30), (5, AI v1), (0, AR 2), (1, AI x), (2, AI b), (3, AI d), (4, AI w)]) dX1_insert_68 rfl (by decide) (fun _ => rfl) (fun v31 ev31 => ?_)
                  refine z_goto (pc := 71) (tgt := 25) dX1_insert_71 (by decide) ?_
                  exact ih25 v30 v31 (by omega) (by first | exact plc_yes i0.1 (by omega) (by omega) (by omega) | exact plc_no (by omega) i1 (by omega)) (by omega)
      exact J25 _ 0 0 (by omega) (⟨by omega, by omega, Or.inl rfl, fun z z0 z1 => by omega⟩) (Nat.lt_succ_self _)
    · refine z_vret (pc := 18) rfl dX1_insert_18 ?_
      exact hQ hi ⟨(Fr.rf), by first | (exfalso; omega) | exact ins_fin (n := v1) (by have q2 : k = v1 := (by omega); rw [← q2]; exact i1) ev1.1 (by subst_vars; simp only [hput_hput, hput_same]; first | done | rfl)⟩

abbrev kX1_remove : Kd := (cX1_remove, .code yX1_remove cX1_remove 4 none :: wsL_law0, rmL 2, RX1, none, 4)
theorem ct_X1_remove : Ct kX1_remove yX1_remove (fun a hi Q => ∃ k : Int, a = [AR 2, AI k] ∧ ((0 ≤ k ∧ k < hi 2 1) ∧ hi 2 1 ≤ 40) ∧ ∀ h2 : HI, (Fr [2] hi h2 ∧ (∃ f2 : Nat → Int, h2 = hput hi 2 f2 ∧ RemAt (hi 2) f2 (hi 2 1) k)) → Q AU h2) := by
  refine Ct.of (ws' := _) (by decide +kernel) rfl rfl ?_
  intro a hi Q hT
  obtain ⟨k, rfl, hpre, hQ⟩ := hT
  refine ⟨Nat.le_of_ble_eq_true rfl, ?_⟩
  show Z kX1_remove Q 0 [(0, AR 2), (1, AI k)] [] hi
  refine z_aload_n (pc := 0) (x := 2) dX1_remove_0 rfl 0 rfl ?_
  refine z_callV (pc := 1) (kc := kX1_size) (n := 0) (pl := 1) (ci := 1) (C := RX1) (As := []) (stk := []) ct_X1_size (gdV rfl rfl (iw7 _ (List.mem_of_getElem? (i := 1) rfl)) (iw7 _ (List.mem_of_getElem? (i := 2) rfl)) (iw7 _ (List.mem_of_getElem? (i := 3) rfl)) (iw1 _ (List.mem_of_getElem? (i := 15) rfl)) (iw7 _ (List.mem_of_getElem? (i := 4) rfl))) rfl ⟨rfl, rfl⟩ (by decide +kernel) ⟨by decide, by decide⟩ (by decide) rfl rfl dX1_remove_1 rfl rfl (Nat.le_of_ble_eq_true rfl) ?_
  refine ⟨rfl, trivial, fun v1 ev1 => ?_⟩
  refine z_istore_n (pc := 4) (lv' := [(2, AI v1), (0, AR 2), (1, AI k)]) dX1_remove_4 rfl (by decide) rfl ?_
  refine z_iload_n (pc := 5) dX1_remove_5 rfl 2 rfl ?_
  refine z_if_lt (pc := 6) (tgt := 20) dX1_remove_6 (by decide) ⟨by omega, by omega⟩ (fun c2 => ?_) (fun c2 => ?_)
  · refine z_vret (pc := 20) rfl dX1_remove_20 ?_
    exact hQ hi ⟨(Fr.rf), by first | (exfalso; omega) | exact rem_fin (n := v1) (by omega) (by omega) ev1.1 (by subst_vars; simp only [hput_hput, hput_same]; first | done | rfl)⟩
  · refine z_iload_n (pc := 9) dX1_remove_9 rfl 2 rfl ?_
    refine z_iload_n (pc := 10) dX1_remove_10 rfl 0 rfl ?_
    refine z_icmp_ge (pc := 11) (tgt := 20) dX1_remove_11 (by decide) ⟨by omega, by omega⟩ ⟨by omega, by omega⟩ (fun c3 => ?_) (fun c3 => ?_)
    · refine z_vret (pc := 20) rfl dX1_remove_20 ?_
      exact hQ hi ⟨(Fr.rf), by first | (exfalso; omega) | exact rem_fin (n := v1) (by omega) (by omega) ev1.1 (by subst_vars; simp only [hput_hput, hput_same]; first | done | rfl)⟩
    · refine z_iload_n (pc := 14) dX1_remove_14 rfl 0 rfl ?_
      refine z_bipush (pc := 15) (v := 40) dX1_remove_15 (by decide +kernel) ?_
      refine z_icmp_le (pc := 17) (tgt := 21) dX1_remove_17 (by decide) ⟨by omega, by omega⟩ ⟨by decide, by decide⟩ (fun c4 => ?_) (fun c4 => ?_)
      · refine z_iconst (pc := 21) (v := 2) dX1_remove_21 rfl ?_
        refine z_iconst (pc := 22) (v := 4) dX1_remove_22 rfl ?_
        refine z_iload_n (pc := 23) dX1_remove_23 rfl 2 rfl ?_
        refine z_imul (pc := 24) dX1_remove_24 (fun v5 ev5 => ?_)
        refine z_iadd (pc := 25) dX1_remove_25 (fun v6 ev6 => ?_)
        refine z_istore_n (pc := 26) (lv' := [(3, AI v6), (2, AI v1), (0, AR 2), (1, AI k)]) dX1_remove_26 rfl (by decide) rfl ?_
        refine z_aload_n (pc := 27) (x := 2) dX1_remove_27 rfl 2 rfl ?_
        refine z_getR (pc := 28) (pl := 1) (f := 0) (ci := 1) (C := RX1) (T := TX1) (N := 1) hu_X1 (by decide) rfl rfl (by decide) rfl (List.mem_cons_of_mem _ (iw3 _ (List.mem_of_getElem? (i := 2) rfl))) rfl dX1_remove_28 ?_
        refine z_iload_n (pc := 31) dX1_remove_31 rfl 0 rfl ?_
        refine z_iconst (pc := 32) (v := 4) dX1_remove_32 rfl ?_
        refine z_iadd (pc := 33) dX1_remove_33 (fun v7 ev7 => ?_)
        refine z_aload_n (pc := 34) (x := 2) dX1_remove_34 rfl 2 rfl ?_
        refine z_getR (pc := 35) (pl := 1) (f := 0) (ci := 1) (C := RX1) (T := TX1) (N := 1) hu_X1 (by decide) rfl rfl (by decide) rfl (List.mem_cons_of_mem _ (iw3 _ (List.mem_of_getElem? (i := 2) rfl))) rfl dX1_remove_35 ?_
        refine z_iload_n (pc := 38) dX1_remove_38 rfl 0 rfl ?_
        refine z_iconst (pc := 39) (v := 4) dX1_remove_39 rfl ?_
        refine z_iload_n (pc := 40) dX1_remove_40 rfl 1 rfl ?_
        refine z_iload_n (pc := 41) dX1_remove_41 rfl 3 rfl ?_
        refine z_isub (pc := 42) dX1_remove_42 (fun v8 ev8 => ?_)
        refine z_iconst (pc := 43) (v := 1) dX1_remove_43 rfl ?_
        refine z_isub (pc := 44) dX1_remove_44 (fun v9 ev9 => ?_)
        refine z_imul (pc := 45) dX1_remove_45 (fun v10 ev10 => ?_)
        refine z_copy (pc := 46) (p1 := 2) (p2 := 2) (stk := []) (by decide) (by decide) rfl rfl (by decide) (by decide) ⟨by omega, by omega, by omega⟩ (by omega) (by omega) (List.mem_cons_of_mem _ (iw8 _ (List.mem_of_getElem? (i := 10) rfl))) (List.mem_cons_of_mem _ (iw8 _ (List.mem_of_getElem? (i := 11) rfl))) (List.mem_cons_of_mem _ (iw8 _ (List.mem_of_getElem? (i := 12) rfl))) (List.mem_cons_of_mem _ (iw8 _ (List.mem_of_getElem? (i := 13) rfl))) (by decide) (Nat.le_of_ble_eq_true rfl) dX1_remove_46 (fun h11 eh11 => ?_)
        have frh11 : Fr [2] hi h11 := (Fr.put (Fr.rf) eh11 (by decide))
        refine z_aload_n (pc := 49) (x := 2) dX1_remove_49 rfl 2 rfl ?_
        refine z_getR (pc := 50) (pl := 1) (f := 0) (ci := 1) (C := RX1) (T := TX1) (N := 1) hu_X1 (by decide) rfl rfl (by decide) rfl (List.mem_cons_of_mem _ (iw3 _ (List.mem_of_getElem? (i := 2) rfl))) rfl dX1_remove_50 ?_
        refine z_iconst (pc := 53) (v := 1) dX1_remove_53 rfl ?_
        refine z_iload_n (pc := 54) dX1_remove_54 rfl 1 rfl ?_
        refine z_iconst (pc := 55) (v := 1) dX1_remove_55 rfl ?_
        refine z_isub (pc := 56) dX1_remove_56 (fun v12 ev12 => ?_)
        refine z_iast (pc := 57) (pl := 2) (by decide) rfl (by decide) (by decide) (by decide) ⟨by omega, by omega⟩ dX1_remove_57 (fun h13 eh13 => ?_)
        have frh13 : Fr [2] hi h13 := (Fr.put frh11 eh13 (by decide))
        refine z_vret (pc := 58) rfl dX1_remove_58 ?_
        exact hQ h13 ⟨frh13, by first | (exfalso; omega) | exact rem_fin (n := v1) (by omega) (by omega) ev1.1 (by subst_vars; simp only [hput_hput, hput_same]; first | done | rfl)⟩
      · refine z_vret (pc := 20) rfl dX1_remove_20 ?_
        exact hQ hi ⟨(Fr.rf), by first | (exfalso; omega) | exact rem_fin (n := v1) (by omega) (by omega) ev1.1 (by subst_vars; simp only [hput_hput, hput_same]; first | done | rfl)⟩

abbrev kX1_copyTo : Kd := (cX1_copyTo, .code yX1_copyTo cX1_copyTo 2 none :: wsL_law0, rmL 1, RX1, none, 2)
theorem ct_X1_copyTo : Ct kX1_copyTo yX1_copyTo (fun a hi Q => ∃ p : Nat, a = [AR 2, AR (p + 1)] ∧ ((5 ≤ p ∧ p < 28) ∧ p ≠ 25) ∧ ∀ h2 : HI, (Fr [5, 6, 7, 8, 9, 10, 11, 12, 13, 14, 15, 16, 17, 18, 19, 20, 21, 22, 23, 24, 26, 27] hi h2 ∧ (h2 = hput hi p (cpyI (hi 2) (hi p) 0 0 162))) → Q AU h2) := by
  refine Ct.of (ws' := _) (by decide +kernel) rfl rfl ?_
  intro a hi Q hT
  obtain ⟨p, rfl, hpre, hQ⟩ := hT
  refine ⟨Nat.le_of_ble_eq_true rfl, ?_⟩
  show Z kX1_copyTo Q 0 [(0, AR 2), (1, AR (p + 1))] [] hi
  refine z_aload_n (pc := 0) (x := (p + 1)) dX1_copyTo_0 rfl 1 rfl ?_
  refine z_ifnull (pc := 1) (tgt := 25) dX1_copyTo_1 (by decide) (by omega) ?_
  refine z_aload_n (pc := 4) (x := (p + 1)) dX1_copyTo_4 rfl 1 rfl ?_
  refine z_len (pc := 5) (n := 162) (z := 162) (by unfold NW; omega) (sh_row p hpre.1.1 hpre.1.2 hpre.2) (by decide) rfl (by decide) dX1_copyTo_5 ?_
  refine z_sipush (pc := 6) (v := 162) dX1_copyTo_6 (by decide +kernel) ?_
  refine z_icmp_lt (pc := 9) (tgt := 25) dX1_copyTo_9 (by decide) ⟨by decide, by decide⟩ ⟨by decide, by decide⟩ (fun q => absurd q (by decide)) (fun _ => ?_)
  refine z_aload_n (pc := 12) (x := 2) dX1_copyTo_12 rfl 0 rfl ?_
  refine z_getR (pc := 13) (pl := 1) (f := 0) (ci := 1) (C := RX1) (T := TX1) (N := 1) hu_X1 (by decide) rfl rfl (by decide) rfl (List.mem_cons_of_mem _ (iw3 _ (List.mem_of_getElem? (i := 2) rfl))) rfl dX1_copyTo_13 ?_
  refine z_iconst (pc := 16) (v := 0) dX1_copyTo_16 rfl ?_
  refine z_aload_n (pc := 17) (x := (p + 1)) dX1_copyTo_17 rfl 1 rfl ?_
  refine z_iconst (pc := 18) (v := 0) dX1_copyTo_18 rfl ?_
  refine z_sipush (pc := 19) (v := 162) dX1_copyTo_19 (by decide +kernel) ?_
  refine z_copy (pc := 22) (p1 := 2) (p2 := p) (stk := []) (by decide) (by unfold NW; omega) rfl (sh_row p hpre.1.1 hpre.1.2 hpre.2) (by omega) (by decide) ⟨by omega, by omega, by omega⟩ (by omega) (by omega) (List.mem_cons_of_mem _ (iw8 _ (List.mem_of_getElem? (i := 10) rfl))) (List.mem_cons_of_mem _ (iw8 _ (List.mem_of_getElem? (i := 11) rfl))) (List.mem_cons_of_mem _ (iw8 _ (List.mem_of_getElem? (i := 12) rfl))) (List.mem_cons_of_mem _ (iw8 _ (List.mem_of_getElem? (i := 13) rfl))) (by decide) (Nat.le_of_ble_eq_true rfl) dX1_copyTo_22 (fun h1 eh1 => ?_)
  have frh1 : Fr [5, 6, 7, 8, 9, 10, 11, 12, 13, 14, 15, 16, 17, 18, 19, 20, 21, 22, 23, 24, 26, 27] hi h1 := (Fr.put Fr.rf eh1 (by simp; omega))
  refine z_vret (pc := 25) rfl dX1_copyTo_25 ?_
  exact hQ h1 ⟨frh1, eh1⟩

abbrev kX1_copyFrom : Kd := (cX1_copyFrom, .code yX1_copyFrom cX1_copyFrom 2 none :: wsL_law0, rmL 1, RX1, none, 2)
theorem ct_X1_copyFrom : Ct kX1_copyFrom yX1_copyFrom (fun a hi Q => ∃ p : Nat, a = [AR 2, AR (p + 1)] ∧ ((5 ≤ p ∧ p < 28) ∧ p ≠ 25) ∧ ∀ h2 : HI, (Fr [2] hi h2 ∧ (h2 = hput hi 2 (cpyI (hi p) (hi 2) 0 0 162))) → Q AU h2) := by
  refine Ct.of (ws' := _) (by decide +kernel) rfl rfl ?_
  intro a hi Q hT
  obtain ⟨p, rfl, hpre, hQ⟩ := hT
  refine ⟨Nat.le_of_ble_eq_true rfl, ?_⟩
  show Z kX1_copyFrom Q 0 [(0, AR 2), (1, AR (p + 1))] [] hi
  refine z_aload_n (pc := 0) (x := (p + 1)) dX1_copyFrom_0 rfl 1 rfl ?_
  refine z_ifnull (pc := 1) (tgt := 25) dX1_copyFrom_1 (by decide) (by omega) ?_
  refine z_aload_n (pc := 4) (x := (p + 1)) dX1_copyFrom_4 rfl 1 rfl ?_
  refine z_len (pc := 5) (n := 162) (z := 162) (by unfold NW; omega) (sh_row p hpre.1.1 hpre.1.2 hpre.2) (by decide) rfl (by decide) dX1_copyFrom_5 ?_
  refine z_sipush (pc := 6) (v := 162) dX1_copyFrom_6 (by decide +kernel) ?_
  refine z_icmp_lt (pc := 9) (tgt := 25) dX1_copyFrom_9 (by decide) ⟨by decide, by decide⟩ ⟨by decide, by decide⟩ (fun q => absurd q (by decide)) (fun _ => ?_)
  refine z_aload_n (pc := 12) (x := (p + 1)) dX1_copyFrom_12 rfl 1 rfl ?_
  refine z_iconst (pc := 13) (v := 0) dX1_copyFrom_13 rfl ?_
  refine z_aload_n (pc := 14) (x := 2) dX1_copyFrom_14 rfl 0 rfl ?_
  refine z_getR (pc := 15) (pl := 1) (f := 0) (ci := 1) (C := RX1) (T := TX1) (N := 1) hu_X1 (by decide) rfl rfl (by decide) rfl (List.mem_cons_of_mem _ (iw3 _ (List.mem_of_getElem? (i := 2) rfl))) rfl dX1_copyFrom_15 ?_
  refine z_iconst (pc := 18) (v := 0) dX1_copyFrom_18 rfl ?_
  refine z_sipush (pc := 19) (v := 162) dX1_copyFrom_19 (by decide +kernel) ?_
  refine z_copy (pc := 22) (p1 := p) (p2 := 2) (stk := []) (by unfold NW; omega) (by decide) (sh_row p hpre.1.1 hpre.1.2 hpre.2) rfl (by omega) (by decide) ⟨by omega, by omega, by omega⟩ (by omega) (by omega) (List.mem_cons_of_mem _ (iw8 _ (List.mem_of_getElem? (i := 10) rfl))) (List.mem_cons_of_mem _ (iw8 _ (List.mem_of_getElem? (i := 11) rfl))) (List.mem_cons_of_mem _ (iw8 _ (List.mem_of_getElem? (i := 12) rfl))) (List.mem_cons_of_mem _ (iw8 _ (List.mem_of_getElem? (i := 13) rfl))) (by decide) (Nat.le_of_ble_eq_true rfl) dX1_copyFrom_22 (fun h1 eh1 => ?_)
  have frh1 : Fr [2] hi h1 := (Fr.put (Fr.rf) eh1 (by decide))
  refine z_vret (pc := 25) rfl dX1_copyFrom_25 ?_
  exact hQ h1 ⟨frh1, eh1⟩

abbrev kX3_steps : Kd := (cX3_steps, .code yX3_steps cX3_steps 1 (some .int) :: wsL_law0, rmL 1, RX3, (some .int), 1)
theorem ct_X3_steps : Ct kX3_steps yX3_steps (fun a hi Q => a = [AR 4] ∧ (True) ∧ ∀ v : Int, (v = hi 3 1 ∧ inR v) → Q (AI v) hi) := by
  refine Ct.of (ws' := _) (by decide +kernel) rfl rfl ?_
  intro a hi Q hT
  obtain ⟨rfl, hpre, hQ⟩ := hT
  refine ⟨Nat.le_of_ble_eq_true rfl, ?_⟩
  show Z kX3_steps Q 0 [(0, AR 4)] [] hi
  refine z_aload_n (pc := 0) (x := 4) dX3_steps_0 rfl 0 rfl ?_
  refine z_getI (pc := 1) (pl := 3) (f := 1) (ci := 3) (C := RX3) (T := TX3) (N := 3) hu_X3 (by decide) rfl rfl (by decide) rfl (List.mem_cons_of_mem _ (iw3 _ (List.mem_of_getElem? (i := 8) rfl))) rfl (by decide) dX3_steps_1 (fun v1 ev1 rv1 => ?_)
  refine z_iret (pc := 4) rfl dX3_steps_4 ?_
  exact hQ v1 (⟨ev1, rv1⟩)

abbrev kX3_forget : Kd := (cX3_forget, .code yX3_forget cX3_forget 1 none :: wsL_law0, rmL 1, RX3, none, 1)
theorem ct_X3_forget : Ct kX3_forget yX3_forget (fun a hi Q => a = [AR 4] ∧ (True) ∧ ∀ h2 : HI, (Fr [3] hi h2 ∧ (h2 = hput hi 3 (updI (hi 3) 1 0))) → Q AU h2) := by
  refine Ct.of (ws' := _) (by decide +kernel) rfl rfl ?_
  intro a hi Q hT
  obtain ⟨rfl, hpre, hQ⟩ := hT
  refine ⟨Nat.le_of_ble_eq_true rfl, ?_⟩
  show Z kX3_forget Q 0 [(0, AR 4)] [] hi
  refine z_aload_n (pc := 0) (x := 4) dX3_forget_0 rfl 0 rfl ?_
  refine z_iconst (pc := 1) (v := 0) dX3_forget_1 rfl ?_
  refine z_putI (pc := 2) (pl := 3) (f := 1) (ci := 3) (C := RX3) (T := TX3) (N := 3) hu_X3 tyX3_ok nmX3 (by decide) rfl rfl (by decide) rfl (List.mem_cons_of_mem _ (iw3 _ (List.mem_of_getElem? (i := 8) rfl))) rfl rfl (ty := .int) (by decide +kernel) rfl rfl ⟨by decide, by decide⟩ dX3_forget_2 (fun h1 eh1 => ?_)
  have frh1 : Fr [3] hi h1 := (Fr.put (Fr.rf) eh1 (by decide))
  refine z_vret (pc := 5) rfl dX3_forget_5 ?_
  exact hQ h1 ⟨frh1, eh1⟩

abbrev kX3_remember : Kd := (cX3_remember, .code yX3_remember cX3_remember 2 none :: wsL_law0, rmL 2, RX3, none, 2)
theorem ct_X3_remember : Ct kX3_remember yX3_remember (fun a hi Q => a = [AR 4, AR 2] ∧ (((0 ≤ hi 3 1 ∧ hi 3 1 ≤ 20) ∧ 0 ≤ hi 3 2 ∧ hi 3 2 < 20)) ∧ ∀ h2 : HI, (Fr [3, 5, 6, 7, 8, 9, 10, 11, 12, 13, 14, 15, 16, 17, 18, 19, 20, 21, 22, 23, 24] hi h2 ∧ (h2 = RemH hi)) → Q AU h2) := by
  refine Ct.of (ws' := _) (by decide +kernel) rfl rfl ?_
  intro a hi Q hT
  obtain ⟨rfl, hpre, hQ⟩ := hT
  refine ⟨Nat.le_of_ble_eq_true rfl, ?_⟩
  show Z kX3_remember Q 0 [(0, AR 4), (1, AR 2)] [] hi
  refine z_aload_n (pc := 0) (x := 2) dX3_remember_0 rfl 1 rfl ?_
  refine z_ifnull (pc := 1) (tgt := 20) dX3_remember_1 (by decide) (by decide) ?_
  refine z_aload_n (pc := 4) (x := 4) dX3_remember_4 rfl 0 rfl ?_
  refine z_getI (pc := 5) (pl := 3) (f := 2) (ci := 3) (C := RX3) (T := TX3) (N := 3) hu_X3 (by decide) rfl rfl (by decide) rfl (List.mem_cons_of_mem _ (iw3 _ (List.mem_of_getElem? (i := 9) rfl))) rfl (by decide) dX3_remember_5 (fun v1 ev1 rv1 => ?_)
  refine z_if_lt (pc := 8) (tgt := 20) dX3_remember_8 (by decide) ⟨by omega, by omega⟩ (fun c2 => ?_) (fun c2 => ?_)
  · refine z_vret (pc := 20) rfl dX3_remember_20 ?_
    exact hQ hi ⟨(Fr.rf), by first | (exfalso; omega) | exact rem_fin2 w31 (by omega) (by assumption) ehi (by split <;> omega) (by split <;> omega)⟩
  · refine z_aload_n (pc := 11) (x := 4) dX3_remember_11 rfl 0 rfl ?_
    refine z_getI (pc := 12) (pl := 3) (f := 2) (ci := 3) (C := RX3) (T := TX3) (N := 3) hu_X3 (by decide) rfl rfl (by decide) rfl (List.mem_cons_of_mem _ (iw3 _ (List.mem_of_getElem? (i := 9) rfl))) rfl (by decide) dX3_remember_12 (fun v3 ev3 rv3 => ?_)
    refine z_bipush (pc := 15) (v := 20) dX3_remember_15 (by decide +kernel) ?_
    refine z_icmp_lt (pc := 17) (tgt := 21) dX3_remember_17 (by decide) ⟨by omega, by omega⟩ ⟨by decide, by decide⟩ (fun c4 => ?_) (fun c4 => ?_)
    · refine z_aload_n (pc := 21) (x := 2) dX3_remember_21 rfl 1 rfl ?_
      refine z_aload_n (pc := 22) (x := 4) dX3_remember_22 rfl 0 rfl ?_
      refine z_getR (pc := 23) (pl := 3) (f := 0) (ci := 3) (C := RX3) (T := TX3) (N := 3) hu_X3 (by decide) rfl rfl (by decide) rfl (List.mem_cons_of_mem _ (iw3 _ (List.mem_of_getElem? (i := 7) rfl))) rfl dX3_remember_23 ?_
      refine z_aload_n (pc := 26) (x := 4) dX3_remember_26 rfl 0 rfl ?_
      refine z_getI (pc := 27) (pl := 3) (f := 2) (ci := 3) (C := RX3) (T := TX3) (N := 3) hu_X3 (by decide) rfl rfl (by decide) rfl (List.mem_cons_of_mem _ (iw3 _ (List.mem_of_getElem? (i := 9) rfl))) rfl (by decide) dX3_remember_27 (fun v5 ev5 rv5 => ?_)
      refine z_aldR (pc := 30) (pl := 4) (b := 5) (by decide) rfl (by decide) (by omega) (by omega) dX3_remember_30 ?_
      refine z_callV (pc := 31) (kc := kX1_copyTo) (n := 1) (pl := 1) (ci := 1) (C := RX1) (As := [AR (5 + v5.toNat + 1)]) (stk := []) ct_X1_copyTo (gdV rfl rfl (iw8 _ (List.mem_of_getElem? (i := 6) rfl)) (iw8 _ (List.mem_of_getElem? (i := 7) rfl)) (iw8 _ (List.mem_of_getElem? (i := 8) rfl)) (iw1 _ (List.mem_of_getElem? (i := 15) rfl)) (iw8 _ (List.mem_of_getElem? (i := 9) rfl))) rfl ⟨rfl, rfl⟩ (by decide +kernel) ⟨by decide, by decide⟩ (by decide) rfl rfl dX3_remember_31 rfl rfl (Nat.le_of_ble_eq_true rfl) ?_
      refine ⟨_, rfl, by omega, fun h6 eh6 => ?_⟩
      have frh6 : Fr [3, 5, 6, 7, 8, 9, 10, 11, 12, 13, 14, 15, 16, 17, 18, 19, 20, 21, 22, 23, 24] hi h6 := (fr_row (Fr.rf) eh6.2 (by decide) (by omega))
      have w31 := eh6.2
      refine z_aload_n (pc := 34) (x := 4) dX3_remember_34 rfl 0 rfl ?_
      refine z_aload_n (pc := 35) (x := 4) dX3_remember_35 rfl 0 rfl ?_
      refine z_getI (pc := 36) (pl := 3) (f := 2) (ci := 3) (C := RX3) (T := TX3) (N := 3) hu_X3 (by decide) rfl rfl (by decide) rfl (List.mem_cons_of_mem _ (iw3 _ (List.mem_of_getElem? (i := 9) rfl))) rfl (by decide) dX3_remember_36 (fun v7 ev7 rv7 => ?_)
      rw [(congrFun (eh6.1 3 (by decide)) 2 : h6 3 2 = hi 3 2)] at ev7
      refine z_bipush (pc := 39) (v := 19) dX3_remember_39 (by decide +kernel) ?_
      refine z_icmp_ne (pc := 41) (tgt := 48) dX3_remember_41 (by decide) ⟨by omega, by omega⟩ ⟨by decide, by decide⟩ (fun c8 => ?_) (fun c8 => ?_)
      · refine z_aload_n (pc := 48) (x := 4) dX3_remember_48 rfl 0 rfl ?_
        refine z_getI (pc := 49) (pl := 3) (f := 2) (ci := 3) (C := RX3) (T := TX3) (N := 3) hu_X3 (by decide) rfl rfl (by decide) rfl (List.mem_cons_of_mem _ (iw3 _ (List.mem_of_getElem? (i := 9) rfl))) rfl (by decide) dX3_remember_49 (fun v9 ev9 rv9 => ?_)
        rw [(congrFun (eh6.1 3 (by decide)) 2 : h6 3 2 = hi 3 2)] at ev9
        refine z_iconst (pc := 52) (v := 1) dX3_remember_52 rfl ?_
        refine z_iadd (pc := 53) dX3_remember_53 (fun v10 ev10 => ?_)
        refine z_putI (pc := 54) (pl := 3) (f := 2) (ci := 3) (C := RX3) (T := TX3) (N := 3) hu_X3 tyX3_ok nmX3 (by decide) rfl rfl (by decide) rfl (List.mem_cons_of_mem _ (iw3 _ (List.mem_of_getElem? (i := 9) rfl))) rfl rfl (ty := .int) (by decide +kernel) rfl rfl ⟨by omega, by omega⟩ dX3_remember_54 (fun h11 eh11 => ?_)
        have frh11 : Fr [3, 5, 6, 7, 8, 9, 10, 11, 12, 13, 14, 15, 16, 17, 18, 19, 20, 21, 22, 23, 24] hi h11 := (Fr.put frh6 eh11 (by decide))
        refine z_aload_n (pc := 57) (x := 4) dX3_remember_57 rfl 0 rfl ?_
        refine z_aload_n (pc := 58) (x := 4) dX3_remember_58 rfl 0 rfl ?_
        refine z_getI (pc := 59) (pl := 3) (f := 1) (ci := 3) (C := RX3) (T := TX3) (N := 3) hu_X3 (by decide) rfl rfl (by decide) rfl (List.mem_cons_of_mem _ (iw3 _ (List.mem_of_getElem? (i := 8) rfl))) rfl (by decide) dX3_remember_59 (fun v12 ev12 rv12 => ?_)
        rw [(by rw [eh11]; rfl : h11 3 1 = h6 3 1), (congrFun (eh6.1 3 (by decide)) 1 : h6 3 1 = hi 3 1)] at ev12
        refine z_iconst (pc := 62) (v := 1) dX3_remember_62 rfl ?_
        refine z_iadd (pc := 63) dX3_remember_63 (fun v13 ev13 => ?_)
        refine z_bipush (pc := 64) (v := 20) dX3_remember_64 (by decide +kernel) ?_
        refine z_mmin (pc := 66) (stk := [AR 4]) ⟨by omega, by omega⟩ ⟨by decide, by decide⟩ (List.mem_cons_of_mem _ (iw8 _ (List.mem_of_getElem? (i := 2) rfl))) (List.mem_cons_of_mem _ (iw8 _ (List.mem_of_getElem? (i := 3) rfl))) (List.mem_cons_of_mem _ (iw8 _ (List.mem_of_getElem? (i := 4) rfl))) (List.mem_cons_of_mem _ (iw8 _ (List.mem_of_getElem? (i := 5) rfl))) (Nat.le_of_ble_eq_true rfl) (Nat.le_of_ble_eq_true rfl) dX3_remember_66 (fun v14 ev14 => ?_)
        refine z_putI (pc := 69) (pl := 3) (f := 1) (ci := 3) (C := RX3) (T := TX3) (N := 3) hu_X3 tyX3_ok nmX3 (by decide) rfl rfl (by decide) rfl (List.mem_cons_of_mem _ (iw3 _ (List.mem_of_getElem? (i := 8) rfl))) rfl rfl (ty := .int) (by decide +kernel) rfl rfl ⟨by omega, by omega⟩ dX3_remember_69 (fun h15 eh15 => ?_)
        have frh15 : Fr [3, 5, 6, 7, 8, 9, 10, 11, 12, 13, 14, 15, 16, 17, 18, 19, 20, 21, 22, 23, 24] hi h15 := (Fr.put frh11 eh15 (by decide))
        refine z_vret (pc := 72) rfl dX3_remember_72 ?_
        exact hQ h15 ⟨frh15, by first | (exfalso; omega) | exact rem_fin2 w31 (by omega) (by assumption) eh15 (by split <;> omega) (by split <;> omega)⟩
      · refine z_iconst (pc := 44) (v := 0) dX3_remember_44 rfl ?_
        refine z_goto (pc := 45) (tgt := 54) dX3_remember_45 (by decide) ?_
        refine z_putI (pc := 54) (pl := 3) (f := 2) (ci := 3) (C := RX3) (T := TX3) (N := 3) hu_X3 tyX3_ok nmX3 (by decide) rfl rfl (by decide) rfl (List.mem_cons_of_mem _ (iw3 _ (List.mem_of_getElem? (i := 9) rfl))) rfl rfl (ty := .int) (by decide +kernel) rfl rfl ⟨by decide, by decide⟩ dX3_remember_54 (fun h16 eh16 => ?_)
        have frh16 : Fr [3, 5, 6, 7, 8, 9, 10, 11, 12, 13, 14, 15, 16, 17, 18, 19, 20, 21, 22, 23, 24] hi h16 := (Fr.put frh6 eh16 (by decide))
        refine z_aload_n (pc := 57) (x := 4) dX3_remember_57 rfl 0 rfl ?_
        refine z_aload_n (pc := 58) (x := 4) dX3_remember_58 rfl 0 rfl ?_
        refine z_getI (pc := 59) (pl := 3) (f := 1) (ci := 3) (C := RX3) (T := TX3) (N := 3) hu_X3 (by decide) rfl rfl (by decide) rfl (List.mem_cons_of_mem _ (iw3 _ (List.mem_of_getElem? (i := 8) rfl))) rfl (by decide) dX3_remember_59 (fun v17 ev17 rv17 => ?_)
        rw [(by rw [eh16]; rfl : h16 3 1 = h6 3 1), (congrFun (eh6.1 3 (by decide)) 1 : h6 3 1 = hi 3 1)] at ev17
        refine z_iconst (pc := 62) (v := 1) dX3_remember_62 rfl ?_
        refine z_iadd (pc := 63) dX3_remember_63 (fun v18 ev18 => ?_)
        refine z_bipush (pc := 64) (v := 20) dX3_remember_64 (by decide +kernel) ?_
        refine z_mmin (pc := 66) (stk := [AR 4]) ⟨by omega, by omega⟩ ⟨by decide, by decide⟩ (List.mem_cons_of_mem _ (iw8 _ (List.mem_of_getElem? (i := 2) rfl))) (List.mem_cons_of_mem _ (iw8 _ (List.mem_of_getElem? (i := 3) rfl))) (List.mem_cons_of_mem _ (iw8 _ (List.mem_of_getElem? (i := 4) rfl))) (List.mem_cons_of_mem _ (iw8 _ (List.mem_of_getElem? (i := 5) rfl))) (Nat.le_of_ble_eq_true rfl) (Nat.le_of_ble_eq_true rfl) dX3_remember_66 (fun v19 ev19 => ?_)
        refine z_putI (pc := 69) (pl := 3) (f := 1) (ci := 3) (C := RX3) (T := TX3) (N := 3) hu_X3 tyX3_ok nmX3 (by decide) rfl rfl (by decide) rfl (List.mem_cons_of_mem _ (iw3 _ (List.mem_of_getElem? (i := 8) rfl))) rfl rfl (ty := .int) (by decide +kernel) rfl rfl ⟨by omega, by omega⟩ dX3_remember_69 (fun h20 eh20 => ?_)
        have frh20 : Fr [3, 5, 6, 7, 8, 9, 10, 11, 12, 13, 14, 15, 16, 17, 18, 19, 20, 21, 22, 23, 24] hi h20 := (Fr.put frh16 eh20 (by decide))
        refine z_vret (pc := 72) rfl dX3_remember_72 ?_
        exact hQ h20 ⟨frh20, by first | (exfalso; omega) | exact rem_fin2 w31 (by omega) (by assumption) eh20 (by split <;> omega) (by split <;> omega)⟩
    · refine z_vret (pc := 20) rfl dX3_remember_20 ?_
      exact hQ hi ⟨(Fr.rf), by first | (exfalso; omega) | exact rem_fin2 w31 (by omega) (by assumption) ehi (by split <;> omega) (by split <;> omega)⟩

abbrev kX3_takeBack : Kd := (cX3_takeBack, .code yX3_takeBack cX3_takeBack 3 (some .boolean) :: wsL_law0, rmL 2, RX3, (some .boolean), 3)
theorem ct_X3_takeBack : Ct kX3_takeBack yX3_takeBack (fun a hi Q => a = [AR 4, AR 2] ∧ (((0 ≤ hi 3 1 ∧ hi 3 1 ≤ 20) ∧ 0 ≤ hi 3 2 ∧ hi 3 2 < 20)) ∧ ∀ (v : Int) (h2 : HI), (Fr [2, 3] hi h2 ∧ ((v = 0 ∧ hi 3 1 = 0 ∧ h2 = hi) ∨ (v = 1 ∧ 0 < hi 3 1 ∧ h2 = TakH hi))) → Q (AI v) h2) := by
  refine Ct.of (ws' := _) (by decide +kernel) rfl rfl ?_
  intro a hi Q hT
  obtain ⟨rfl, hpre, hQ⟩ := hT
  refine ⟨Nat.le_of_ble_eq_true rfl, ?_⟩
  show Z kX3_takeBack Q 0 [(0, AR 4), (1, AR 2)] [] hi
  refine z_aload_n (pc := 0) (x := 4) dX3_takeBack_0 rfl 0 rfl ?_
  refine z_getI (pc := 1) (pl := 3) (f := 2) (ci := 3) (C := RX3) (T := TX3) (N := 3) hu_X3 (by decide) rfl rfl (by decide) rfl (List.mem_cons_of_mem _ (iw3 _ (List.mem_of_getElem? (i := 9) rfl))) rfl (by decide) dX3_takeBack_1 (fun v1 ev1 rv1 => ?_)
  refine z_if_ne (pc := 4) (tgt := 12) dX3_takeBack_4 (by decide) ⟨by omega, by omega⟩ (fun c2 => ?_) (fun c2 => ?_)
  · refine z_aload_n (pc := 12) (x := 4) dX3_takeBack_12 rfl 0 rfl ?_
    refine z_getI (pc := 13) (pl := 3) (f := 2) (ci := 3) (C := RX3) (T := TX3) (N := 3) hu_X3 (by decide) rfl rfl (by decide) rfl (List.mem_cons_of_mem _ (iw3 _ (List.mem_of_getElem? (i := 9) rfl))) rfl (by decide) dX3_takeBack_13 (fun v3 ev3 rv3 => ?_)
    refine z_iconst (pc := 16) (v := 1) dX3_takeBack_16 rfl ?_
    refine z_isub (pc := 17) dX3_takeBack_17 (fun v4 ev4 => ?_)
    refine z_istore_n (pc := 18) (lv' := [(2, AI v4), (0, AR 4), (1, AR 2)]) dX3_takeBack_18 rfl (by decide) rfl ?_
    refine z_aload_n (pc := 19) (x := 2) dX3_takeBack_19 rfl 2 rfl ?_
    refine z_ifnull (pc := 20) (tgt := 40) dX3_takeBack_20 (by decide) (by decide) ?_
    refine z_aload_n (pc := 23) (x := 4) dX3_takeBack_23 rfl 1 rfl ?_
    refine z_getI (pc := 24) (pl := 3) (f := 1) (ci := 3) (C := RX3) (T := TX3) (N := 3) hu_X3 (by decide) rfl rfl (by decide) rfl (List.mem_cons_of_mem _ (iw3 _ (List.mem_of_getElem? (i := 8) rfl))) rfl (by decide) dX3_takeBack_24 (fun v5 ev5 rv5 => ?_)
    refine z_if_le (pc := 27) (tgt := 40) dX3_takeBack_27 (by decide) ⟨by omega, by omega⟩ (fun c6 => ?_) (fun c6 => ?_)
    · refine z_iconst (pc := 40) (v := 0) dX3_takeBack_40 rfl ?_
      refine z_zret (pc := 41) rfl (by decide) dX3_takeBack_41 ?_
      exact hQ 0 hi ⟨(Fr.rf), by first | (exfalso; omega) | exact Or.inl ⟨rfl, by omega, rfl⟩ | exact Or.inr ⟨rfl, by omega, tak_fin w49 (by split <;> omega) (by assumption) ehi (by omega)⟩⟩
    · refine z_iload_n (pc := 30) dX3_takeBack_30 rfl 0 rfl ?_
      refine z_if_lt (pc := 31) (tgt := 40) dX3_takeBack_31 (by decide) ⟨by omega, by omega⟩ (fun c7 => ?_) (fun c7 => ?_)
      · refine z_iconst (pc := 40) (v := 0) dX3_takeBack_40 rfl ?_
        refine z_zret (pc := 41) rfl (by decide) dX3_takeBack_41 ?_
        exact hQ 0 hi ⟨(Fr.rf), by first | (exfalso; omega) | exact Or.inl ⟨rfl, by omega, rfl⟩ | exact Or.inr ⟨rfl, by omega, tak_fin w49 (by split <;> omega) (by assumption) ehi (by omega)⟩⟩
      · refine z_iload_n (pc := 34) dX3_takeBack_34 rfl 0 rfl ?_
        refine z_bipush (pc := 35) (v := 20) dX3_takeBack_35 (by decide +kernel) ?_
        refine z_icmp_lt (pc := 37) (tgt := 42) dX3_takeBack_37 (by decide) ⟨by omega, by omega⟩ ⟨by decide, by decide⟩ (fun c8 => ?_) (fun c8 => ?_)
        · refine z_aload_n (pc := 42) (x := 2) dX3_takeBack_42 rfl 2 rfl ?_
          refine z_aload_n (pc := 43) (x := 4) dX3_takeBack_43 rfl 1 rfl ?_
          refine z_getR (pc := 44) (pl := 3) (f := 0) (ci := 3) (C := RX3) (T := TX3) (N := 3) hu_X3 (by decide) rfl rfl (by decide) rfl (List.mem_cons_of_mem _ (iw3 _ (List.mem_of_getElem? (i := 7) rfl))) rfl dX3_takeBack_44 ?_
          refine z_iload_n (pc := 47) dX3_takeBack_47 rfl 0 rfl ?_
          refine z_aldR (pc := 48) (pl := 4) (b := 5) (by decide) rfl (by decide) (by omega) (by omega) dX3_takeBack_48 ?_
          refine z_callV (pc := 49) (kc := kX1_copyFrom) (n := 1) (pl := 1) (ci := 1) (C := RX1) (As := [AR (5 + v4.toNat + 1)]) (stk := []) ct_X1_copyFrom (gdV rfl rfl (iw15 _ (List.mem_of_getElem? (i := 22) rfl)) (iw15 _ (List.mem_of_getElem? (i := 23) rfl)) (iw16 _ (List.mem_of_getElem? (i := 0) rfl)) (iw1 _ (List.mem_of_getElem? (i := 15) rfl)) (iw16 _ (List.mem_of_getElem? (i := 1) rfl))) rfl ⟨rfl, rfl⟩ (by decide +kernel) ⟨by decide, by decide⟩ (by decide) rfl rfl dX3_takeBack_49 rfl rfl (Nat.le_of_ble_eq_true rfl) ?_
          refine ⟨_, rfl, by omega, fun h9 eh9 => ?_⟩
          have frh9 : Fr [2, 3] hi h9 := (Fr.call (Fr.rf) eh9.1 (by decide))
          have w49 := eh9.2
          refine z_aload_n (pc := 52) (x := 4) dX3_takeBack_52 rfl 1 rfl ?_
          refine z_iload_n (pc := 53) dX3_takeBack_53 rfl 0 rfl ?_
          refine z_putI (pc := 54) (pl := 3) (f := 2) (ci := 3) (C := RX3) (T := TX3) (N := 3) hu_X3 tyX3_ok nmX3 (by decide) rfl rfl (by decide) rfl (List.mem_cons_of_mem _ (iw3 _ (List.mem_of_getElem? (i := 9) rfl))) rfl rfl (ty := .int) (by decide +kernel) rfl rfl ⟨by omega, by omega⟩ dX3_takeBack_54 (fun h10 eh10 => ?_)
          have frh10 : Fr [2, 3] hi h10 := (Fr.put frh9 eh10 (by decide))
          refine z_aload_n (pc := 57) (x := 4) dX3_takeBack_57 rfl 1 rfl ?_
          refine z_dup (pc := 58) dX3_takeBack_58 rfl ?_
          refine z_getI (pc := 59) (pl := 3) (f := 1) (ci := 3) (C := RX3) (T := TX3) (N := 3) hu_X3 (by decide) rfl rfl (by decide) rfl (List.mem_cons_of_mem _ (iw3 _ (List.mem_of_getElem? (i := 8) rfl))) rfl (by decide) dX3_takeBack_59 (fun v11 ev11 rv11 => ?_)
          rw [(by rw [eh10]; rfl : h10 3 1 = h9 3 1), (congrFun (eh9.1 3 (by decide)) 1 : h9 3 1 = hi 3 1)] at ev11
          refine z_iconst (pc := 62) (v := 1) dX3_takeBack_62 rfl ?_
          refine z_isub (pc := 63) dX3_takeBack_63 (fun v12 ev12 => ?_)
          refine z_putI (pc := 64) (pl := 3) (f := 1) (ci := 3) (C := RX3) (T := TX3) (N := 3) hu_X3 tyX3_ok nmX3 (by decide) rfl rfl (by decide) rfl (List.mem_cons_of_mem _ (iw3 _ (List.mem_of_getElem? (i := 8) rfl))) rfl rfl (ty := .int) (by decide +kernel) rfl rfl ⟨by omega, by omega⟩ dX3_takeBack_64 (fun h13 eh13 => ?_)
          have frh13 : Fr [2, 3] hi h13 := (Fr.put frh10 eh13 (by decide))
          refine z_iconst (pc := 67) (v := 1) dX3_takeBack_67 rfl ?_
          refine z_zret (pc := 68) rfl (by decide) dX3_takeBack_68 ?_
          exact hQ 1 h13 ⟨frh13, by first | (exfalso; omega) | exact Or.inl ⟨rfl, by omega, rfl⟩ | exact Or.inr ⟨rfl, by omega, tak_fin w49 (by split <;> omega) (by assumption) eh13 (by omega)⟩⟩
        · refine z_iconst (pc := 40) (v := 0) dX3_takeBack_40 rfl ?_
          refine z_zret (pc := 41) rfl (by decide) dX3_takeBack_41 ?_
          exact hQ 0 hi ⟨(Fr.rf), by first | (exfalso; omega) | exact Or.inl ⟨rfl, by omega, rfl⟩ | exact Or.inr ⟨rfl, by omega, tak_fin w49 (by split <;> omega) (by assumption) ehi (by omega)⟩⟩
  · refine z_bipush (pc := 7) (v := 19) dX3_takeBack_7 (by decide +kernel) ?_
    refine z_goto (pc := 9) (tgt := 18) dX3_takeBack_9 (by decide) ?_
    refine z_istore_n (pc := 18) (lv' := [(2, AI 19), (0, AR 4), (1, AR 2)]) dX3_takeBack_18 rfl (by decide) rfl ?_
    refine z_aload_n (pc := 19) (x := 2) dX3_takeBack_19 rfl 2 rfl ?_
    refine z_ifnull (pc := 20) (tgt := 40) dX3_takeBack_20 (by decide) (by decide) ?_
    refine z_aload_n (pc := 23) (x := 4) dX3_takeBack_23 rfl 1 rfl ?_
    refine z_getI (pc := 24) (pl := 3) (f := 1) (ci := 3) (C := RX3) (T := TX3) (N := 3) hu_X3 (by decide) rfl rfl (by decide) rfl (List.mem_cons_of_mem _ (iw3 _ (List.mem_of_getElem? (i := 8) rfl))) rfl (by decide) dX3_takeBack_24 (fun v14 ev14 rv14 => ?_)
    refine z_if_le (pc := 27) (tgt := 40) dX3_takeBack_27 (by decide) ⟨by omega, by omega⟩ (fun c15 => ?_) (fun c15 => ?_)
    · refine z_iconst (pc := 40) (v := 0) dX3_takeBack_40 rfl ?_
      refine z_zret (pc := 41) rfl (by decide) dX3_takeBack_41 ?_
      exact hQ 0 hi ⟨(Fr.rf), by first | (exfalso; omega) | exact Or.inl ⟨rfl, by omega, rfl⟩ | exact Or.inr ⟨rfl, by omega, tak_fin w49 (by split <;> omega) (by assumption) ehi (by omega)⟩⟩
    · refine z_iload_n (pc := 30) dX3_takeBack_30 rfl 0 rfl ?_
      refine z_if_lt (pc := 31) (tgt := 40) dX3_takeBack_31 (by decide) ⟨by decide, by decide⟩ (fun q => absurd q (by decide)) (fun _ => ?_)
      refine z_iload_n (pc := 34) dX3_takeBack_34 rfl 0 rfl ?_
      refine z_bipush (pc := 35) (v := 20) dX3_takeBack_35 (by decide +kernel) ?_
      refine z_icmp_lt (pc := 37) (tgt := 42) dX3_takeBack_37 (by decide) ⟨by decide, by decide⟩ ⟨by decide, by decide⟩ (fun _ => ?_) (fun q => absurd q (by decide))
      refine z_aload_n (pc := 42) (x := 2) dX3_takeBack_42 rfl 2 rfl ?_
      refine z_aload_n (pc := 43) (x := 4) dX3_takeBack_43 rfl 1 rfl ?_
      refine z_getR (pc := 44) (pl := 3) (f := 0) (ci := 3) (C := RX3) (T := TX3) (N := 3) hu_X3 (by decide) rfl rfl (by decide) rfl (List.mem_cons_of_mem _ (iw3 _ (List.mem_of_getElem? (i := 7) rfl))) rfl dX3_takeBack_44 ?_
      refine z_iload_n (pc := 47) dX3_takeBack_47 rfl 0 rfl ?_
      refine z_aldR (pc := 48) (pl := 4) (b := 5) (by decide) rfl (by decide) (by omega) (by omega) dX3_takeBack_48 ?_
      refine z_callV (pc := 49) (kc := kX1_copyFrom) (n := 1) (pl := 1) (ci := 1) (C := RX1) (As := [AR (5 + (19 : Int).toNat + 1)]) (stk := []) ct_X1_copyFrom (gdV rfl rfl (iw15 _ (List.mem_of_getElem? (i := 22) rfl)) (iw15 _ (List.mem_of_getElem? (i := 23) rfl)) (iw16 _ (List.mem_of_getElem? (i := 0) rfl)) (iw1 _ (List.mem_of_getElem? (i := 15) rfl)) (iw16 _ (List.mem_of_getElem? (i := 1) rfl))) rfl ⟨rfl, rfl⟩ (by decide +kernel) ⟨by decide, by decide⟩ (by decide) rfl rfl dX3_takeBack_49 rfl rfl (Nat.le_of_ble_eq_true rfl) ?_
      refine ⟨_, rfl, by omega, fun h16 eh16 => ?_⟩
      have frh16 : Fr [2, 3] hi h16 := (Fr.call (Fr.rf) eh16.1 (by decide))
      have w49 := eh16.2
      refine z_aload_n (pc := 52) (x := 4) dX3_takeBack_52 rfl 1 rfl ?_
      refine z_iload_n (pc := 53) dX3_takeBack_53 rfl 0 rfl ?_
      refine z_putI (pc := 54) (pl := 3) (f := 2) (ci := 3) (C := RX3) (T := TX3) (N := 3) hu_X3 tyX3_ok nmX3 (by decide) rfl rfl (by decide) rfl (List.mem_cons_of_mem _ (iw3 _ (List.mem_of_getElem? (i := 9) rfl))) rfl rfl (ty := .int) (by decide +kernel) rfl rfl ⟨by decide, by decide⟩ dX3_takeBack_54 (fun h17 eh17 => ?_)
      have frh17 : Fr [2, 3] hi h17 := (Fr.put frh16 eh17 (by decide))
      refine z_aload_n (pc := 57) (x := 4) dX3_takeBack_57 rfl 1 rfl ?_
      refine z_dup (pc := 58) dX3_takeBack_58 rfl ?_
      refine z_getI (pc := 59) (pl := 3) (f := 1) (ci := 3) (C := RX3) (T := TX3) (N := 3) hu_X3 (by decide) rfl rfl (by decide) rfl (List.mem_cons_of_mem _ (iw3 _ (List.mem_of_getElem? (i := 8) rfl))) rfl (by decide) dX3_takeBack_59 (fun v18 ev18 rv18 => ?_)
      rw [(by rw [eh17]; rfl : h17 3 1 = h16 3 1), (congrFun (eh16.1 3 (by decide)) 1 : h16 3 1 = hi 3 1)] at ev18
      refine z_iconst (pc := 62) (v := 1) dX3_takeBack_62 rfl ?_
      refine z_isub (pc := 63) dX3_takeBack_63 (fun v19 ev19 => ?_)
      refine z_putI (pc := 64) (pl := 3) (f := 1) (ci := 3) (C := RX3) (T := TX3) (N := 3) hu_X3 tyX3_ok nmX3 (by decide) rfl rfl (by decide) rfl (List.mem_cons_of_mem _ (iw3 _ (List.mem_of_getElem? (i := 8) rfl))) rfl rfl (ty := .int) (by decide +kernel) rfl rfl ⟨by omega, by omega⟩ dX3_takeBack_64 (fun h20 eh20 => ?_)
      have frh20 : Fr [2, 3] hi h20 := (Fr.put frh17 eh20 (by decide))
      refine z_iconst (pc := 67) (v := 1) dX3_takeBack_67 rfl ?_
      refine z_zret (pc := 68) rfl (by decide) dX3_takeBack_68 ?_
      exact hQ 1 h20 ⟨frh20, by first | (exfalso; omega) | exact Or.inl ⟨rfl, by omega, rfl⟩ | exact Or.inr ⟨rfl, by omega, tak_fin w49 (by split <;> omega) (by assumption) eh20 (by omega)⟩⟩

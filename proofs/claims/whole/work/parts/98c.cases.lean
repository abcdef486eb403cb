section LAW3
variable {L : Nat} {xs : Nat → Int32} {QQ : QE} {cells slots i : Nat} {hi : HI}
theorem case_ran (hL : L ≤ 3072) (h6 : i + 6 ≤ L) (hc : cells + 1 ≤ 601024 ∧ slots + 6 ≤ 7293034) (r : LwR hi) (tl : Tail L xs QQ cells slots i) : ZG kLaw (eeW L xs) QQ cells slots 700 (lvL i) [] hi := by
  refine zg_aload_n (pc := 700) (x := 1) dL_law_700 rfl 3 rfl ?_
  refine zg_rd (pc := 701) (j := 1) hL h6 (by decide) dL_law_701 dL_law_702 dL_law_704 dL_law_705 dL_law_706 ?_
  refine zg_callV (pc := 707) (kc := kX7_ran) (n := 1) (pl := 0) (ci := 6) (As := [AI (X5 xs i 1)]) (stk := []) ct_X7_ran (good_x (gdV (k := k0Law) rfl rfl (iw30 _ (List.mem_of_getElem? (i := 23) rfl)) (iw31 _ (List.mem_of_getElem? (i := 0) rfl)) (iw31 _ (List.mem_of_getElem? (i := 1) rfl)) (iw1 _ (List.mem_of_getElem? (i := 2) rfl)) (iw31 _ (List.mem_of_getElem? (i := 2) rfl)))) rfl ⟨rfl, rfl⟩ (by decide +kernel) ⟨Nat.le_of_ble_eq_true rfl, Nat.le_of_ble_eq_true rfl⟩ ⟨by show cells + 0 ≤ 601024; omega, by show slots + 0 ≤ 7293034; omega⟩ (by decide) rfl rfl dL_law_707 rfl rfl (Nat.le_of_ble_eq_true rfl) ?_
  refine ⟨_, rfl, toInt_inR _, fun v hv => ?_⟩
  show ZG kLaw (eeW L xs) QQ cells slots 710 (lvL i) [AI v] hi
  have mx : MX hi := r.1.2.1
  refine zg_aload_n (pc := 710) (x := 40) dL_law_710 rfl 2 rfl ?_
  refine zg_rd (pc := 711) (j := 1) hL h6 (by decide) dL_law_711 dL_law_712 dL_law_714 dL_law_715 dL_law_716 ?_
  refine zg_callV (pc := 717) (kc := kX8_ran) (n := 1) (pl := 39) (ci := 7) (As := [AI (X5 xs i 1)]) (stk := [AI v]) ct_X8_ran (good_x (gdV (k := k0Law) rfl rfl (iw31 _ (List.mem_of_getElem? (i := 3) rfl)) (iw31 _ (List.mem_of_getElem? (i := 4) rfl)) (iw31 _ (List.mem_of_getElem? (i := 5) rfl)) (iw1 _ (List.mem_of_getElem? (i := 5) rfl)) (iw31 _ (List.mem_of_getElem? (i := 6) rfl)))) rfl ⟨rfl, rfl⟩ (by decide +kernel) ⟨Nat.le_of_ble_eq_true rfl, Nat.le_of_ble_eq_true rfl⟩ ⟨by show cells + 0 ≤ 601024; omega, by show slots + 0 ≤ 7293034; omega⟩ (by decide) rfl rfl dL_law_717 rfl rfl (Nat.le_of_ble_eq_true rfl) ?_
  refine ⟨_, rfl, toInt_inR _, fun u h2 hu => ?_⟩
  show ZG kLaw (eeW L xs) QQ cells slots 720 (lvL i) [AI u, AI v] h2
  obtain ⟨e, r2⟩ := act_ran r hv hu.2
  refine zg_same (pc := 720) (tgt := 1485) dL_law_720 (by decide) e ?_
  exact tl h2 cells slots r2 (Nat.le_succ _) (Nat.le_add_right _ _)
theorem case_ask (hL : L ≤ 3072) (h6 : i + 6 ≤ L) (hc : cells + 1 ≤ 601024 ∧ slots + 6 ≤ 7293034) (r : LwR hi) (tl : Tail L xs QQ cells slots i) : ZG kLaw (eeW L xs) QQ cells slots 725 (lvL i) [] hi := by
  refine zg_aload_n (pc := 725) (x := 1) dL_law_725 rfl 3 rfl ?_
  refine zg_rd (pc := 726) (j := 1) hL h6 (by decide) dL_law_726 dL_law_727 dL_law_729 dL_law_730 dL_law_731 ?_
  refine zg_callV (pc := 732) (kc := kX7_ask) (n := 1) (pl := 0) (ci := 6) (As := [AI (X5 xs i 1)]) (stk := []) ct_X7_ask (good_x (gdV (k := k0Law) rfl rfl (iw31 _ (List.mem_of_getElem? (i := 8) rfl)) (iw31 _ (List.mem_of_getElem? (i := 9) rfl)) (iw31 _ (List.mem_of_getElem? (i := 10) rfl)) (iw1 _ (List.mem_of_getElem? (i := 2) rfl)) (iw31 _ (List.mem_of_getElem? (i := 11) rfl)))) rfl ⟨rfl, rfl⟩ (by decide +kernel) ⟨Nat.le_of_ble_eq_true rfl, Nat.le_of_ble_eq_true rfl⟩ ⟨by show cells + 0 ≤ 601024; omega, by show slots + 0 ≤ 7293034; omega⟩ (by decide) rfl rfl dL_law_732 rfl rfl (Nat.le_of_ble_eq_true rfl) ?_
  refine ⟨_, rfl, ⟨r.1.1, r.2.2.1.1.1, r.2.1.1, toInt_inR _⟩, fun v h1 hv => ?_⟩
  show ZG kLaw (eeW L xs) QQ cells slots 735 (lvL i) [AI v] h1
  obtain ⟨S, P, V, st, mm, hTC, fin⟩ := act_ask r hv.1 hv.2
  have mx : MX h1 := r.mx hv.1 (by decide)
  refine zg_aload_n (pc := 735) (x := 40) dL_law_735 rfl 2 rfl ?_
  refine zg_rd (pc := 736) (j := 1) hL h6 (by decide) dL_law_736 dL_law_737 dL_law_739 dL_law_740 dL_law_741 ?_
  refine zg_callV (pc := 742) (kc := kX8_ask) (n := 1) (pl := 39) (ci := 7) (As := [AI (X5 xs i 1)]) (stk := [AI v]) ct_X8_ask (good_x (gdV (k := k0Law) rfl rfl (iw35 _ (List.mem_of_getElem? (i := 14) rfl)) (iw35 _ (List.mem_of_getElem? (i := 15) rfl)) (iw35 _ (List.mem_of_getElem? (i := 16) rfl)) (iw1 _ (List.mem_of_getElem? (i := 5) rfl)) (iw35 _ (List.mem_of_getElem? (i := 17) rfl)))) rfl ⟨rfl, rfl⟩ (by decide +kernel) ⟨Nat.le_of_ble_eq_true rfl, Nat.le_of_ble_eq_true rfl⟩ ⟨by show cells + 0 ≤ 601024; omega, by show slots + 0 ≤ 7293034; omega⟩ (by decide) rfl rfl dL_law_742 rfl rfl (Nat.le_of_ble_eq_true rfl) ?_
  refine ⟨_, S, P, V, st, mm, rfl, ⟨⟨mx, fun j hj => by rw [hv.1 51 (by decide)]; exact r.2.1.2 j hj⟩, r.l8 (hv.1 39 (by decide)), toInt_inR _, hTC⟩, fun u h2 hu => ?_⟩
  show ZG kLaw (eeW L xs) QQ cells slots 745 (lvL i) [AI u, AI v] h2
  obtain ⟨e, r2⟩ := fin h2 u hu.1 hu.2.1 hu.2.2
  refine zg_same (pc := 745) (tgt := 1485) dL_law_745 (by decide) e ?_
  exact tl h2 cells slots r2 (Nat.le_succ _) (Nat.le_add_right _ _)
theorem case_report (hL : L ≤ 3072) (h6 : i + 6 ≤ L) (hc : cells + 1 ≤ 601024 ∧ slots + 6 ≤ 7293034) (r : LwR hi) (tl : Tail L xs QQ cells slots i) : ZG kLaw (eeW L xs) QQ cells slots 750 (lvL i) [] hi := by
  refine zg_aload_n (pc := 750) (x := 1) dL_law_750 rfl 3 rfl ?_
  refine zg_rd (pc := 751) (j := 1) hL h6 (by decide) dL_law_751 dL_law_752 dL_law_754 dL_law_755 dL_law_756 ?_
  refine zg_callV (pc := 757) (kc := kX7_report) (n := 1) (pl := 0) (ci := 6) (As := [AI (X5 xs i 1)]) (stk := []) ct_X7_report (good_x (gdV (k := k0Law) rfl rfl (iw40 _ (List.mem_of_getElem? (i := 16) rfl)) (iw40 _ (List.mem_of_getElem? (i := 17) rfl)) (iw40 _ (List.mem_of_getElem? (i := 18) rfl)) (iw1 _ (List.mem_of_getElem? (i := 2) rfl)) (iw40 _ (List.mem_of_getElem? (i := 19) rfl)))) rfl ⟨rfl, rfl⟩ (by decide +kernel) ⟨Nat.le_of_ble_eq_true rfl, Nat.le_of_ble_eq_true rfl⟩ ⟨by show cells + 0 ≤ 601024; omega, by show slots + 0 ≤ 7293034; omega⟩ (by decide) rfl rfl dL_law_757 rfl rfl (Nat.le_of_ble_eq_true rfl) ?_
  refine ⟨_, rfl, ⟨r.1.1.1.1, toInt_inR _⟩, fun v h1 hv => ?_⟩
  show ZG kLaw (eeW L xs) QQ cells slots 760 (lvL i) [AI v] h1
  have mx : MX h1 := r.mx hv.1 (by decide)
  refine zg_aload_n (pc := 760) (x := 40) dL_law_760 rfl 2 rfl ?_
  refine zg_rd (pc := 761) (j := 1) hL h6 (by decide) dL_law_761 dL_law_762 dL_law_764 dL_law_765 dL_law_766 ?_
  refine zg_callV (pc := 767) (kc := kX8_report) (n := 1) (pl := 39) (ci := 7) (As := [AI (X5 xs i 1)]) (stk := [AI v]) ct_X8_report (good_x (gdV (k := k0Law) rfl rfl (iw42 _ (List.mem_of_getElem? (i := 2) rfl)) (iw42 _ (List.mem_of_getElem? (i := 3) rfl)) (iw42 _ (List.mem_of_getElem? (i := 4) rfl)) (iw1 _ (List.mem_of_getElem? (i := 5) rfl)) (iw42 _ (List.mem_of_getElem? (i := 5) rfl)))) rfl ⟨rfl, rfl⟩ (by decide +kernel) ⟨Nat.le_of_ble_eq_true rfl, Nat.le_of_ble_eq_true rfl⟩ ⟨by show cells + 0 ≤ 601024; omega, by show slots + 0 ≤ 7293034; omega⟩ (by decide) rfl rfl dL_law_767 rfl rfl (Nat.le_of_ble_eq_true rfl) ?_
  refine ⟨_, rfl, ⟨mx.1.1, toInt_inR _⟩, fun u h2 hu => ?_⟩
  show ZG kLaw (eeW L xs) QQ cells slots 770 (lvL i) [AI u, AI v] h2
  obtain ⟨e, r2⟩ := act_report r hv.1 hv.2 hu.1 hu.2.1 hu.2.2
  refine zg_same (pc := 770) (tgt := 1485) dL_law_770 (by decide) e ?_
  exact tl h2 cells slots r2 (Nat.le_succ _) (Nat.le_add_right _ _)
theorem case_count (hL : L ≤ 3072) (h6 : i + 6 ≤ L) (hc : cells + 1 ≤ 601024 ∧ slots + 6 ≤ 7293034) (r : LwR hi) (tl : Tail L xs QQ cells slots i) : ZG kLaw (eeW L xs) QQ cells slots 775 (lvL i) [] hi := by
  refine zg_aload_n (pc := 775) (x := 1) dL_law_775 rfl 3 rfl ?_
  refine zg_rd (pc := 776) (j := 1) hL h6 (by decide) dL_law_776 dL_law_777 dL_law_779 dL_law_780 dL_law_781 ?_
  refine zg_callV (pc := 782) (kc := kX7_count) (n := 1) (pl := 0) (ci := 6) (As := [AI (X5 xs i 1)]) (stk := []) ct_X7_count (good_x (gdV (k := k0Law) rfl rfl (iw42 _ (List.mem_of_getElem? (i := 21) rfl)) (iw42 _ (List.mem_of_getElem? (i := 22) rfl)) (iw42 _ (List.mem_of_getElem? (i := 23) rfl)) (iw1 _ (List.mem_of_getElem? (i := 2) rfl)) (iw43 _ (List.mem_of_getElem? (i := 0) rfl)))) rfl ⟨rfl, rfl⟩ (by decide +kernel) ⟨Nat.le_of_ble_eq_true rfl, Nat.le_of_ble_eq_true rfl⟩ ⟨by show cells + 0 ≤ 601024; omega, by show slots + 0 ≤ 7293034; omega⟩ (by decide) rfl rfl dL_law_782 rfl rfl (Nat.le_of_ble_eq_true rfl) ?_
  refine ⟨_, rfl, ⟨r.1.1.1.1, toInt_inR _⟩, fun v hv => ?_⟩
  show ZG kLaw (eeW L xs) QQ cells slots 785 (lvL i) [AI v] hi
  have mx : MX hi := r.1.2.1
  refine zg_aload_n (pc := 785) (x := 40) dL_law_785 rfl 2 rfl ?_
  refine zg_rd (pc := 786) (j := 1) hL h6 (by decide) dL_law_786 dL_law_787 dL_law_789 dL_law_790 dL_law_791 ?_
  refine zg_callV (pc := 792) (kc := kX8_count) (n := 1) (pl := 39) (ci := 7) (As := [AI (X5 xs i 1)]) (stk := [AI v]) ct_X8_count (good_x (gdV (k := k0Law) rfl rfl (iw43 _ (List.mem_of_getElem? (i := 9) rfl)) (iw43 _ (List.mem_of_getElem? (i := 10) rfl)) (iw43 _ (List.mem_of_getElem? (i := 11) rfl)) (iw1 _ (List.mem_of_getElem? (i := 5) rfl)) (iw43 _ (List.mem_of_getElem? (i := 12) rfl)))) rfl ⟨rfl, rfl⟩ (by decide +kernel) ⟨Nat.le_of_ble_eq_true rfl, Nat.le_of_ble_eq_true rfl⟩ ⟨by show cells + 0 ≤ 601024; omega, by show slots + 0 ≤ 7293034; omega⟩ (by decide) rfl rfl dL_law_792 rfl rfl (Nat.le_of_ble_eq_true rfl) ?_
  refine ⟨_, rfl, ⟨mx.1.1, toInt_inR _⟩, fun u h2 hu => ?_⟩
  show ZG kLaw (eeW L xs) QQ cells slots 795 (lvL i) [AI u, AI v] h2
  obtain ⟨e, r2⟩ := act_count r hv hu.2
  refine zg_same (pc := 795) (tgt := 1485) dL_law_795 (by decide) e ?_
  exact tl h2 cells slots r2 (Nat.le_succ _) (Nat.le_add_right _ _)
theorem case_life (hL : L ≤ 3072) (h6 : i + 6 ≤ L) (hc : cells + 1 ≤ 601024 ∧ slots + 6 ≤ 7293034) (r : LwR hi) (tl : Tail L xs QQ cells slots i) : ZG kLaw (eeW L xs) QQ cells slots 800 (lvL i) [] hi := by
  refine zg_aload_n (pc := 800) (x := 1) dL_law_800 rfl 3 rfl ?_
  refine zg_rd (pc := 801) (j := 1) hL h6 (by decide) dL_law_801 dL_law_802 dL_law_804 dL_law_805 dL_law_806 ?_
  refine zg_rd (pc := 807) (j := 2) hL h6 (by decide) dL_law_807 dL_law_808 dL_law_810 dL_law_811 dL_law_812 ?_
  refine zg_aload_n (pc := 813) (x := 55) dL_law_813 rfl 1 rfl ?_
  refine zg_callL (pc := 814) (idx := 89) (kk0 := X5 xs i 1) (yy := X5 xs i 2) (stk := []) (gdSx (kc := kL_life) rfl rfl (List.mem_append_left _ (iw43 _ (List.mem_of_getElem? (i := 13) rfl))) (List.mem_append_left _ (iw43 _ (List.mem_of_getElem? (i := 14) rfl))) (List.mem_append_left _ (iw43 _ (List.mem_of_getElem? (i := 15) rfl))) (List.mem_append_left _ (iw43 _ (List.mem_of_getElem? (i := 16) rfl)))) ⟨Nat.le_of_ble_eq_true rfl, Nat.le_of_ble_eq_true rfl⟩ (fun c s ad A h => h.1) ⟨hc.1, hc.2⟩ dL_law_814 rfl (Nat.le_of_ble_eq_true rfl) ⟨r.1.1.1.1, toInt_inR _, toInt_inR _⟩ (fun h1 j f1 hj => ?_)
  show ZG kLaw (eeW L xs) QQ (cells + 1) (slots + 6) 817 (lvL i) [AI j] h1
  refine zg_rg (fun hRG => ?_)
  have mx : MX h1 := r.mx f1 (by decide)
  refine zg_istore (pc := 817) (i := 5) (lv' := (5, AI j) :: lvL i) dL_law_817 (by decide) rfl ?_
  refine zg_aload_n (pc := 819) (x := 40) dL_law_819 rfl 3 rfl ?_
  refine zg_aload_n (pc := 820) (x := 500) dL_law_820 rfl 5 rfl ?_
  refine zg_iload (pc := 821) (i := 4) (x := (i : Int)) dL_law_821 1 rfl ?_
  refine zg_iconst (pc := 823) (v := 1) dL_law_823 rfl ?_
  refine zg_iadd (pc := 824) dL_law_824 (fun z1 ez1 => ?_)
  refine zg_sld (pc := 825) (L := L) (xs := xs) (fun c s ad A h => h.2.1) (by omega) (by omega) (by omega) dL_law_825 (fun w1 ew1 rw1 => ?_)
  rw [show z1.toNat = i + 1 by omega] at ew1
  subst ew1
  refine zg_aload_n (pc := 826) (x := 500) dL_law_826 rfl 5 rfl ?_
  refine zg_iload (pc := 827) (i := 4) (x := (i : Int)) dL_law_827 1 rfl ?_
  refine zg_iconst (pc := 829) (v := 2) dL_law_829 rfl ?_
  refine zg_iadd (pc := 830) dL_law_830 (fun z2 ez2 => ?_)
  refine zg_sld (pc := 831) (L := L) (xs := xs) (fun c s ad A h => h.2.1) (by omega) (by omega) (by omega) dL_law_831 (fun w2 ew2 rw2 => ?_)
  rw [show z2.toNat = i + 2 by omega] at ew2
  subst ew2
  refine zg_callV (pc := 832) (kc := kX8_life) (n := 2) (pl := 39) (ci := 7) (As := [AI (X5 xs i 1), AI (X5 xs i 2)]) (stk := []) ct_X8_life (good_x (gdV (k := k0Law) rfl rfl (iw44 _ (List.mem_of_getElem? (i := 1) rfl)) (iw44 _ (List.mem_of_getElem? (i := 2) rfl)) (iw44 _ (List.mem_of_getElem? (i := 3) rfl)) (iw1 _ (List.mem_of_getElem? (i := 5) rfl)) (iw44 _ (List.mem_of_getElem? (i := 4) rfl)))) rfl ⟨rfl, rfl⟩ (by decide +kernel) ⟨Nat.le_of_ble_eq_true rfl, Nat.le_of_ble_eq_true rfl⟩ ⟨by show (cells + 1) + 0 ≤ 601024; omega, by show (slots + 6) + 0 ≤ 7293034; omega⟩ (by decide) rfl rfl dL_law_832 rfl rfl (Nat.le_of_ble_eq_true rfl) ?_
  refine ⟨_, _, rfl, ⟨mx.1.1, toInt_inR _, toInt_inR _⟩, fun u h2 hu => ?_⟩
  show ZG kLaw (eeW L xs) QQ (cells + 1) (slots + 6) 835 ((5, AI j) :: lvL i) [AI u] h2
  have ru : inR u := by
    rcases hu.2 with ⟨_, q, _⟩ | ⟨q1, _, ⟨_, q⟩ | ⟨_, q⟩⟩
    · rw [q]; exact inR_lit.1
    · have rk := (toRng mx.1.1 q1.1).2.1
      have := pcs_bd rk.1 rk.2.1 rk.2.2
      rw [q]; exact ⟨by omega, by omega⟩
    · rw [q]; exact hRG.2 40 _ (by omega) (by decide)
  obtain ⟨e1, e2, r2⟩ := act_life r f1 hj hu.2
  have rj : j = 0 ∨ j = 1 := hj.imp (fun q => q.1) (fun q => q.1)
  refine zg_istore (pc := 835) (i := 6) (lv' := (6, AI u) :: (5, AI j) :: lvL i) dL_law_835 (by decide) rfl ?_
  refine zg_aload_n (pc := 837) (x := 40) dL_law_837 rfl 4 rfl ?_
  refine zg_callV (pc := 838) (kc := kX8_thrown) (n := 0) (pl := 39) (ci := 7) (As := []) (stk := []) ct_X8_thrown (good_x (gdV (k := k0Law) rfl rfl (iw44 _ (List.mem_of_getElem? (i := 6) rfl)) (iw44 _ (List.mem_of_getElem? (i := 7) rfl)) (iw44 _ (List.mem_of_getElem? (i := 8) rfl)) (iw1 _ (List.mem_of_getElem? (i := 5) rfl)) (iw44 _ (List.mem_of_getElem? (i := 9) rfl)))) rfl ⟨rfl, rfl⟩ (by decide +kernel) ⟨Nat.le_of_ble_eq_true rfl, Nat.le_of_ble_eq_true rfl⟩ ⟨by show (cells + 1) + 0 ≤ 601024; omega, by show (slots + 6) + 0 ≤ 7293034; omega⟩ (by decide) rfl rfl dL_law_838 rfl rfl (Nat.le_of_ble_eq_true rfl) ?_
  refine ⟨rfl, trivial, fun t ht => ?_⟩
  show ZG kLaw (eeW L xs) QQ (cells + 1) (slots + 6) 841 ((6, AI u) :: (5, AI j) :: lvL i) [AI t] h2
  have done_ : ZG kLaw (eeW L xs) QQ (cells + 1) (slots + 6) 865 ((6, AI u) :: (5, AI j) :: lvL i) [] h2 := by
    refine zg_goto (pc := 865) (tgt := 1485) dL_law_865 (by decide) ?_
    refine zg_lv (lv' := lvL i) [2, 3, 4, 5, 6] (fun ad => rfl) ?_
    exact tl h2 (cells + 1) (slots + 6) r2 (Nat.le_refl _) (Nat.le_refl _)
  refine zg_iload (pc := 841) (i := 5) (x := j) dL_law_841 1 rfl ?_
  refine zg_same (pc := 843) (tgt := 848) dL_law_843 (by decide) (ht.1.trans e1) ?_
  refine zg_iload (pc := 848) (i := 5) (x := j) dL_law_848 1 rfl ?_
  refine zg_if_ne (pc := 850) (tgt := 865) dL_law_850 (by decide) ⟨by omega, by omega⟩ (fun _ => done_) (fun q => ?_)
  refine zg_aload_n (pc := 853) (x := 55) dL_law_853 rfl 3 rfl ?_
  refine zg_iconst (pc := 854) (v := 0) dL_law_854 rfl ?_
  refine zg_lald54 (pc := 855) dL_law_855 ?_
  refine zg_iload (pc := 856) (i := 6) (x := u) dL_law_856 0 rfl ?_
  refine zg_i2l (pc := 858) dL_law_858 ru ?_
  have e3 := e2 q
  have ru2 : inL u := ⟨by have := ru.1; omega, by have := ru.2; omega⟩
  refine zg_lcmp (pc := 859) dL_law_859 (by rw [e3]; exact ru2) ru2 (fun w hw => ?_)
  refine zg_if_eq (pc := 860) (tgt := 865) dL_law_860 (by decide) ⟨by omega, by omega⟩ (fun _ => done_) (fun q9 => absurd (by omega : w = 0) q9)
theorem case_which (hL : L ≤ 3072) (h6 : i + 6 ≤ L) (hc : cells + 1 ≤ 601024 ∧ slots + 6 ≤ 7293034) (r : LwR hi) (tl : Tail L xs QQ cells slots i) : ZG kLaw (eeW L xs) QQ cells slots 868 (lvL i) [] hi := by
  refine zg_aload_n (pc := 868) (x := 1) dL_law_868 rfl 3 rfl ?_
  refine zg_rd (pc := 869) (j := 1) hL h6 (by decide) dL_law_869 dL_law_870 dL_law_872 dL_law_873 dL_law_874 ?_
  refine zg_rd (pc := 875) (j := 2) hL h6 (by decide) dL_law_875 dL_law_876 dL_law_878 dL_law_879 dL_law_880 ?_
  refine zg_callV (pc := 881) (kc := kX7_which) (n := 2) (pl := 0) (ci := 6) (As := [AI (X5 xs i 1), AI (X5 xs i 2)]) (stk := []) ct_X7_which (good_x (gdV (k := k0Law) rfl rfl (iw44 _ (List.mem_of_getElem? (i := 10) rfl)) (iw44 _ (List.mem_of_getElem? (i := 11) rfl)) (iw44 _ (List.mem_of_getElem? (i := 12) rfl)) (iw1 _ (List.mem_of_getElem? (i := 2) rfl)) (iw44 _ (List.mem_of_getElem? (i := 13) rfl)))) rfl ⟨rfl, rfl⟩ (by decide +kernel) ⟨Nat.le_of_ble_eq_true rfl, Nat.le_of_ble_eq_true rfl⟩ ⟨by show cells + 0 ≤ 601024; omega, by show slots + 0 ≤ 7293034; omega⟩ (by decide) rfl rfl dL_law_881 rfl rfl (Nat.le_of_ble_eq_true rfl) ?_
  refine ⟨_, _, rfl, ⟨r.1.1.1.1, toInt_inR _, toInt_inR _⟩, fun v hv => ?_⟩
  show ZG kLaw (eeW L xs) QQ cells slots 884 (lvL i) [AI v] hi
  have mx : MX hi := r.1.2.1
  refine zg_aload_n (pc := 884) (x := 40) dL_law_884 rfl 2 rfl ?_
  refine zg_rd (pc := 885) (j := 1) hL h6 (by decide) dL_law_885 dL_law_886 dL_law_888 dL_law_889 dL_law_890 ?_
  refine zg_rd (pc := 891) (j := 2) hL h6 (by decide) dL_law_891 dL_law_892 dL_law_894 dL_law_895 dL_law_896 ?_
  refine zg_callV (pc := 897) (kc := kX8_which) (n := 2) (pl := 39) (ci := 7) (As := [AI (X5 xs i 1), AI (X5 xs i 2)]) (stk := [AI v]) ct_X8_which (good_x (gdV (k := k0Law) rfl rfl (iw44 _ (List.mem_of_getElem? (i := 14) rfl)) (iw44 _ (List.mem_of_getElem? (i := 15) rfl)) (iw44 _ (List.mem_of_getElem? (i := 16) rfl)) (iw1 _ (List.mem_of_getElem? (i := 5) rfl)) (iw44 _ (List.mem_of_getElem? (i := 17) rfl)))) rfl ⟨rfl, rfl⟩ (by decide +kernel) ⟨Nat.le_of_ble_eq_true rfl, Nat.le_of_ble_eq_true rfl⟩ ⟨by show cells + 0 ≤ 601024; omega, by show slots + 0 ≤ 7293034; omega⟩ (by decide) rfl rfl dL_law_897 rfl rfl (Nat.le_of_ble_eq_true rfl) ?_
  refine ⟨_, _, rfl, ⟨mx.1.1, toInt_inR _, toInt_inR _⟩, fun u h2 hu => ?_⟩
  show ZG kLaw (eeW L xs) QQ cells slots 900 (lvL i) [AI u, AI v] h2
  obtain ⟨e, r2⟩ := act_which r hv hu.2
  refine zg_same (pc := 900) (tgt := 1485) dL_law_900 (by decide) e ?_
  exact tl h2 cells slots r2 (Nat.le_succ _) (Nat.le_add_right _ _)
theorem case_alive (hL : L ≤ 3072) (h6 : i + 6 ≤ L) (hc : cells + 1 ≤ 601024 ∧ slots + 6 ≤ 7293034) (r : LwR hi) (tl : Tail L xs QQ cells slots i) : ZG kLaw (eeW L xs) QQ cells slots 905 (lvL i) [] hi := by
  refine zg_aload_n (pc := 905) (x := 1) dL_law_905 rfl 3 rfl ?_
  refine zg_rd (pc := 906) (j := 1) hL h6 (by decide) dL_law_906 dL_law_907 dL_law_909 dL_law_910 dL_law_911 ?_
  refine zg_callV (pc := 912) (kc := kX7_alive) (n := 1) (pl := 0) (ci := 6) (As := [AI (X5 xs i 1)]) (stk := []) ct_X7_alive (good_x (gdV (k := k0Law) rfl rfl (iw44 _ (List.mem_of_getElem? (i := 18) rfl)) (iw44 _ (List.mem_of_getElem? (i := 19) rfl)) (iw44 _ (List.mem_of_getElem? (i := 20) rfl)) (iw1 _ (List.mem_of_getElem? (i := 2) rfl)) (iw44 _ (List.mem_of_getElem? (i := 21) rfl)))) rfl ⟨rfl, rfl⟩ (by decide +kernel) ⟨Nat.le_of_ble_eq_true rfl, Nat.le_of_ble_eq_true rfl⟩ ⟨by show cells + 0 ≤ 601024; omega, by show slots + 0 ≤ 7293034; omega⟩ (by decide) rfl rfl dL_law_912 rfl rfl (Nat.le_of_ble_eq_true rfl) ?_
  refine ⟨_, rfl, ⟨r.1.1.1.1, toInt_inR _⟩, fun v hv => ?_⟩
  show ZG kLaw (eeW L xs) QQ cells slots 915 (lvL i) [AI v] hi
  have mx : MX hi := r.1.2.1
  refine zg_aload_n (pc := 915) (x := 40) dL_law_915 rfl 2 rfl ?_
  refine zg_rd (pc := 916) (j := 1) hL h6 (by decide) dL_law_916 dL_law_917 dL_law_919 dL_law_920 dL_law_921 ?_
  refine zg_callV (pc := 922) (kc := kX8_alive) (n := 1) (pl := 39) (ci := 7) (As := [AI (X5 xs i 1)]) (stk := [AI v]) ct_X8_alive (good_x (gdV (k := k0Law) rfl rfl (iw44 _ (List.mem_of_getElem? (i := 23) rfl)) (iw45 _ (List.mem_of_getElem? (i := 0) rfl)) (iw45 _ (List.mem_of_getElem? (i := 1) rfl)) (iw1 _ (List.mem_of_getElem? (i := 5) rfl)) (iw45 _ (List.mem_of_getElem? (i := 2) rfl)))) rfl ⟨rfl, rfl⟩ (by decide +kernel) ⟨Nat.le_of_ble_eq_true rfl, Nat.le_of_ble_eq_true rfl⟩ ⟨by show cells + 0 ≤ 601024; omega, by show slots + 0 ≤ 7293034; omega⟩ (by decide) rfl rfl dL_law_922 rfl rfl (Nat.le_of_ble_eq_true rfl) ?_
  refine ⟨_, rfl, ⟨mx.1.1, toInt_inR _⟩, fun u h2 hu => ?_⟩
  show ZG kLaw (eeW L xs) QQ cells slots 925 (lvL i) [AI u, AI v] h2
  obtain ⟨e, r2⟩ := act_alive r hv hu.2
  refine zg_same (pc := 925) (tgt := 1485) dL_law_925 (by decide) e ?_
  exact tl h2 cells slots r2 (Nat.le_succ _) (Nat.le_add_right _ _)
theorem case_next (hL : L ≤ 3072) (h6 : i + 6 ≤ L) (hc : cells + 1 ≤ 601024 ∧ slots + 6 ≤ 7293034) (r : LwR hi) (tl : Tail L xs QQ cells slots i) : ZG kLaw (eeW L xs) QQ cells slots 930 (lvL i) [] hi := by
  refine zg_aload_n (pc := 930) (x := 1) dL_law_930 rfl 3 rfl ?_
  refine zg_rd (pc := 931) (j := 1) hL h6 (by decide) dL_law_931 dL_law_932 dL_law_934 dL_law_935 dL_law_936 ?_
  refine zg_rd (pc := 937) (j := 2) hL h6 (by decide) dL_law_937 dL_law_938 dL_law_940 dL_law_941 dL_law_942 ?_
  refine zg_callV (pc := 943) (kc := kX7_next) (n := 2) (pl := 0) (ci := 6) (As := [AI (X5 xs i 1), AI (X5 xs i 2)]) (stk := []) ct_X7_next (good_x (gdV (k := k0Law) rfl rfl (iw45 _ (List.mem_of_getElem? (i := 3) rfl)) (iw45 _ (List.mem_of_getElem? (i := 4) rfl)) (iw45 _ (List.mem_of_getElem? (i := 5) rfl)) (iw1 _ (List.mem_of_getElem? (i := 2) rfl)) (iw45 _ (List.mem_of_getElem? (i := 6) rfl)))) rfl ⟨rfl, rfl⟩ (by decide +kernel) ⟨Nat.le_of_ble_eq_true rfl, Nat.le_of_ble_eq_true rfl⟩ ⟨by show cells + 0 ≤ 601024; omega, by show slots + 0 ≤ 7293034; omega⟩ (by decide) rfl rfl dL_law_943 rfl rfl (Nat.le_of_ble_eq_true rfl) ?_
  refine ⟨_, _, rfl, ⟨r.1.1.1.1, toInt_inR _, toInt_inR _⟩, fun v hv => ?_⟩
  show ZG kLaw (eeW L xs) QQ cells slots 946 (lvL i) [AI v] hi
  have mx : MX hi := r.1.2.1
  refine zg_aload_n (pc := 946) (x := 40) dL_law_946 rfl 2 rfl ?_
  refine zg_rd (pc := 947) (j := 1) hL h6 (by decide) dL_law_947 dL_law_948 dL_law_950 dL_law_951 dL_law_952 ?_
  refine zg_rd (pc := 953) (j := 2) hL h6 (by decide) dL_law_953 dL_law_954 dL_law_956 dL_law_957 dL_law_958 ?_
  refine zg_callV (pc := 959) (kc := kX8_next) (n := 2) (pl := 39) (ci := 7) (As := [AI (X5 xs i 1), AI (X5 xs i 2)]) (stk := [AI v]) ct_X8_next (good_x (gdV (k := k0Law) rfl rfl (iw45 _ (List.mem_of_getElem? (i := 8) rfl)) (iw45 _ (List.mem_of_getElem? (i := 9) rfl)) (iw45 _ (List.mem_of_getElem? (i := 10) rfl)) (iw1 _ (List.mem_of_getElem? (i := 5) rfl)) (iw45 _ (List.mem_of_getElem? (i := 11) rfl)))) rfl ⟨rfl, rfl⟩ (by decide +kernel) ⟨Nat.le_of_ble_eq_true rfl, Nat.le_of_ble_eq_true rfl⟩ ⟨by show cells + 0 ≤ 601024; omega, by show slots + 0 ≤ 7293034; omega⟩ (by decide) rfl rfl dL_law_959 rfl rfl (Nat.le_of_ble_eq_true rfl) ?_
  refine ⟨_, _, rfl, ⟨mx.1.1, toInt_inR _, toInt_inR _⟩, fun u h2 hu => ?_⟩
  show ZG kLaw (eeW L xs) QQ cells slots 962 (lvL i) [AI u, AI v] h2
  obtain ⟨e, r2⟩ := act_next r hv hu.2
  refine zg_same (pc := 962) (tgt := 1485) dL_law_962 (by decide) e ?_
  exact tl h2 cells slots r2 (Nat.le_succ _) (Nat.le_add_right _ _)
theorem case_before (hL : L ≤ 3072) (h6 : i + 6 ≤ L) (hc : cells + 1 ≤ 601024 ∧ slots + 6 ≤ 7293034) (r : LwR hi) (tl : Tail L xs QQ cells slots i) : ZG kLaw (eeW L xs) QQ cells slots 967 (lvL i) [] hi := by
  refine zg_aload_n (pc := 967) (x := 1) dL_law_967 rfl 3 rfl ?_
  refine zg_rd (pc := 968) (j := 1) hL h6 (by decide) dL_law_968 dL_law_969 dL_law_971 dL_law_972 dL_law_973 ?_
  refine zg_rd (pc := 974) (j := 2) hL h6 (by decide) dL_law_974 dL_law_975 dL_law_977 dL_law_978 dL_law_979 ?_
  refine zg_callV (pc := 980) (kc := kX7_before) (n := 2) (pl := 0) (ci := 6) (As := [AI (X5 xs i 1), AI (X5 xs i 2)]) (stk := []) ct_X7_before (good_x (gdV (k := k0Law) rfl rfl (iw45 _ (List.mem_of_getElem? (i := 12) rfl)) (iw45 _ (List.mem_of_getElem? (i := 13) rfl)) (iw45 _ (List.mem_of_getElem? (i := 14) rfl)) (iw1 _ (List.mem_of_getElem? (i := 2) rfl)) (iw45 _ (List.mem_of_getElem? (i := 15) rfl)))) rfl ⟨rfl, rfl⟩ (by decide +kernel) ⟨Nat.le_of_ble_eq_true rfl, Nat.le_of_ble_eq_true rfl⟩ ⟨by show cells + 0 ≤ 601024; omega, by show slots + 0 ≤ 7293034; omega⟩ (by decide) rfl rfl dL_law_980 rfl rfl (Nat.le_of_ble_eq_true rfl) ?_
  refine ⟨_, _, rfl, ⟨r.1.1.1.1, toInt_inR _, toInt_inR _⟩, fun v hv => ?_⟩
  show ZG kLaw (eeW L xs) QQ cells slots 983 (lvL i) [AI v] hi
  have mx : MX hi := r.1.2.1
  refine zg_aload_n (pc := 983) (x := 40) dL_law_983 rfl 2 rfl ?_
  refine zg_rd (pc := 984) (j := 1) hL h6 (by decide) dL_law_984 dL_law_985 dL_law_987 dL_law_988 dL_law_989 ?_
  refine zg_rd (pc := 990) (j := 2) hL h6 (by decide) dL_law_990 dL_law_991 dL_law_993 dL_law_994 dL_law_995 ?_
  refine zg_callV (pc := 996) (kc := kX8_before) (n := 2) (pl := 39) (ci := 7) (As := [AI (X5 xs i 1), AI (X5 xs i 2)]) (stk := [AI v]) ct_X8_before (good_x (gdV (k := k0Law) rfl rfl (iw45 _ (List.mem_of_getElem? (i := 17) rfl)) (iw45 _ (List.mem_of_getElem? (i := 18) rfl)) (iw45 _ (List.mem_of_getElem? (i := 19) rfl)) (iw1 _ (List.mem_of_getElem? (i := 5) rfl)) (iw45 _ (List.mem_of_getElem? (i := 20) rfl)))) rfl ⟨rfl, rfl⟩ (by decide +kernel) ⟨Nat.le_of_ble_eq_true rfl, Nat.le_of_ble_eq_true rfl⟩ ⟨by show cells + 0 ≤ 601024; omega, by show slots + 0 ≤ 7293034; omega⟩ (by decide) rfl rfl dL_law_996 rfl rfl (Nat.le_of_ble_eq_true rfl) ?_
  refine ⟨_, _, rfl, ⟨mx.1.1, toInt_inR _, toInt_inR _⟩, fun u h2 hu => ?_⟩
  show ZG kLaw (eeW L xs) QQ cells slots 999 (lvL i) [AI u, AI v] h2
  obtain ⟨e, r2⟩ := act_before r hv hu.2
  refine zg_same (pc := 999) (tgt := 1485) dL_law_999 (by decide) e ?_
  exact tl h2 cells slots r2 (Nat.le_succ _) (Nat.le_add_right _ _)
theorem case_rank (hL : L ≤ 3072) (h6 : i + 6 ≤ L) (hc : cells + 1 ≤ 601024 ∧ slots + 6 ≤ 7293034) (r : LwR hi) (tl : Tail L xs QQ cells slots i) : ZG kLaw (eeW L xs) QQ cells slots 1004 (lvL i) [] hi := by
  refine zg_aload_n (pc := 1004) (x := 1) dL_law_1004 rfl 3 rfl ?_
  refine zg_rd (pc := 1005) (j := 1) hL h6 (by decide) dL_law_1005 dL_law_1006 dL_law_1008 dL_law_1009 dL_law_1010 ?_
  refine zg_rd (pc := 1011) (j := 2) hL h6 (by decide) dL_law_1011 dL_law_1012 dL_law_1014 dL_law_1015 dL_law_1016 ?_
  refine zg_callV (pc := 1017) (kc := kX7_rank) (n := 2) (pl := 0) (ci := 6) (As := [AI (X5 xs i 1), AI (X5 xs i 2)]) (stk := []) ct_X7_rank (good_x (gdV (k := k0Law) rfl rfl (iw45 _ (List.mem_of_getElem? (i := 21) rfl)) (iw45 _ (List.mem_of_getElem? (i := 22) rfl)) (iw45 _ (List.mem_of_getElem? (i := 23) rfl)) (iw1 _ (List.mem_of_getElem? (i := 2) rfl)) (iw46 _ (List.mem_of_getElem? (i := 0) rfl)))) rfl ⟨rfl, rfl⟩ (by decide +kernel) ⟨Nat.le_of_ble_eq_true rfl, Nat.le_of_ble_eq_true rfl⟩ ⟨by show cells + 0 ≤ 601024; omega, by show slots + 0 ≤ 7293034; omega⟩ (by decide) rfl rfl dL_law_1017 rfl rfl (Nat.le_of_ble_eq_true rfl) ?_
  refine ⟨_, _, rfl, ⟨r.1.1.1.1, toInt_inR _, toInt_inR _⟩, fun v hv => ?_⟩
  show ZG kLaw (eeW L xs) QQ cells slots 1020 (lvL i) [AI v] hi
  have mx : MX hi := r.1.2.1
  refine zg_aload_n (pc := 1020) (x := 40) dL_law_1020 rfl 2 rfl ?_
  refine zg_rd (pc := 1021) (j := 1) hL h6 (by decide) dL_law_1021 dL_law_1022 dL_law_1024 dL_law_1025 dL_law_1026 ?_
  refine zg_rd (pc := 1027) (j := 2) hL h6 (by decide) dL_law_1027 dL_law_1028 dL_law_1030 dL_law_1031 dL_law_1032 ?_
  refine zg_callV (pc := 1033) (kc := kX8_rank) (n := 2) (pl := 39) (ci := 7) (As := [AI (X5 xs i 1), AI (X5 xs i 2)]) (stk := [AI v]) ct_X8_rank (good_x (gdV (k := k0Law) rfl rfl (iw46 _ (List.mem_of_getElem? (i := 2) rfl)) (iw46 _ (List.mem_of_getElem? (i := 3) rfl)) (iw46 _ (List.mem_of_getElem? (i := 4) rfl)) (iw1 _ (List.mem_of_getElem? (i := 5) rfl)) (iw46 _ (List.mem_of_getElem? (i := 5) rfl)))) rfl ⟨rfl, rfl⟩ (by decide +kernel) ⟨Nat.le_of_ble_eq_true rfl, Nat.le_of_ble_eq_true rfl⟩ ⟨by show cells + 0 ≤ 601024; omega, by show slots + 0 ≤ 7293034; omega⟩ (by decide) rfl rfl dL_law_1033 rfl rfl (Nat.le_of_ble_eq_true rfl) ?_
  refine ⟨_, _, rfl, ⟨mx.1.1, toInt_inR _, toInt_inR _⟩, fun u h2 hu => ?_⟩
  show ZG kLaw (eeW L xs) QQ cells slots 1036 (lvL i) [AI u, AI v] h2
  obtain ⟨e, r2⟩ := act_rank r hv hu.2
  refine zg_same (pc := 1036) (tgt := 1485) dL_law_1036 (by decide) e ?_
  exact tl h2 cells slots r2 (Nat.le_succ _) (Nat.le_add_right _ _)
theorem case_kth (hL : L ≤ 3072) (h6 : i + 6 ≤ L) (hc : cells + 1 ≤ 601024 ∧ slots + 6 ≤ 7293034) (r : LwR hi) (tl : Tail L xs QQ cells slots i) : ZG kLaw (eeW L xs) QQ cells slots 1041 (lvL i) [] hi := by
  refine zg_aload_n (pc := 1041) (x := 1) dL_law_1041 rfl 3 rfl ?_
  refine zg_rd (pc := 1042) (j := 1) hL h6 (by decide) dL_law_1042 dL_law_1043 dL_law_1045 dL_law_1046 dL_law_1047 ?_
  refine zg_rd (pc := 1048) (j := 2) hL h6 (by decide) dL_law_1048 dL_law_1049 dL_law_1051 dL_law_1052 dL_law_1053 ?_
  refine zg_callV (pc := 1054) (kc := kX7_kth) (n := 2) (pl := 0) (ci := 6) (As := [AI (X5 xs i 1), AI (X5 xs i 2)]) (stk := []) ct_X7_kth (good_x (gdV (k := k0Law) rfl rfl (iw46 _ (List.mem_of_getElem? (i := 6) rfl)) (iw46 _ (List.mem_of_getElem? (i := 7) rfl)) (iw46 _ (List.mem_of_getElem? (i := 8) rfl)) (iw1 _ (List.mem_of_getElem? (i := 2) rfl)) (iw46 _ (List.mem_of_getElem? (i := 9) rfl)))) rfl ⟨rfl, rfl⟩ (by decide +kernel) ⟨Nat.le_of_ble_eq_true rfl, Nat.le_of_ble_eq_true rfl⟩ ⟨by show cells + 0 ≤ 601024; omega, by show slots + 0 ≤ 7293034; omega⟩ (by decide) rfl rfl dL_law_1054 rfl rfl (Nat.le_of_ble_eq_true rfl) ?_
  refine ⟨_, _, rfl, ⟨r.1.1.1.1, toInt_inR _, toInt_inR _⟩, fun v hv => ?_⟩
  show ZG kLaw (eeW L xs) QQ cells slots 1057 (lvL i) [AI v] hi
  have mx : MX hi := r.1.2.1
  refine zg_aload_n (pc := 1057) (x := 40) dL_law_1057 rfl 2 rfl ?_
  refine zg_rd (pc := 1058) (j := 1) hL h6 (by decide) dL_law_1058 dL_law_1059 dL_law_1061 dL_law_1062 dL_law_1063 ?_
  refine zg_rd (pc := 1064) (j := 2) hL h6 (by decide) dL_law_1064 dL_law_1065 dL_law_1067 dL_law_1068 dL_law_1069 ?_
  refine zg_callV (pc := 1070) (kc := kX8_kth) (n := 2) (pl := 39) (ci := 7) (As := [AI (X5 xs i 1), AI (X5 xs i 2)]) (stk := [AI v]) ct_X8_kth (good_x (gdV (k := k0Law) rfl rfl (iw46 _ (List.mem_of_getElem? (i := 10) rfl)) (iw46 _ (List.mem_of_getElem? (i := 11) rfl)) (iw46 _ (List.mem_of_getElem? (i := 12) rfl)) (iw1 _ (List.mem_of_getElem? (i := 5) rfl)) (iw46 _ (List.mem_of_getElem? (i := 13) rfl)))) rfl ⟨rfl, rfl⟩ (by decide +kernel) ⟨Nat.le_of_ble_eq_true rfl, Nat.le_of_ble_eq_true rfl⟩ ⟨by show cells + 0 ≤ 601024; omega, by show slots + 0 ≤ 7293034; omega⟩ (by decide) rfl rfl dL_law_1070 rfl rfl (Nat.le_of_ble_eq_true rfl) ?_
  refine ⟨_, _, rfl, ⟨mx.1.1, toInt_inR _, toInt_inR _⟩, fun u h2 hu => ?_⟩
  show ZG kLaw (eeW L xs) QQ cells slots 1073 (lvL i) [AI u, AI v] h2
  obtain ⟨e, r2⟩ := act_kth r hv hu.2
  refine zg_same (pc := 1073) (tgt := 1485) dL_law_1073 (by decide) e ?_
  exact tl h2 cells slots r2 (Nat.le_succ _) (Nat.le_add_right _ _)
end LAW3

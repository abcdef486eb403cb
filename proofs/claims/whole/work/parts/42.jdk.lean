theorem sgB_all : ∀ z : Fin 46, (sgB.getD z.val []).length ≤ 8 ∧ ∀ i : Fin 8, 0 ≤ (sgB.getD z.val []).getD i.val 0 ∧ (sgB.getD z.val []).getD i.val 0 < 128 := by decide +kernel
theorem sgB_bd {z : Nat} (h : z < 46) : (sgB.getD z []).length ≤ 8 := (sgB_all ⟨z, h⟩).1
theorem sgB_ch {z i : Nat} (h : z < 46) (hi : i < (sgB.getD z []).length) : 0 ≤ (sgB.getD z []).getD i 0 ∧ (sgB.getD z []).getD i 0 < 128 := (sgB_all ⟨z, h⟩).2 ⟨i, by have := sgB_bd h; omega⟩
theorem and255' {x v y : Int} (hy : y = 255) (h : v = (iI x &&& iI y).toInt) : v = x % 256 := by subst hy; exact and255 h
abbrev kJ3_checkIndex_8e157 : Kd := (cJ3_checkIndex_8e157, .code yJ3_checkIndex_8e157 cJ3_checkIndex_8e157 3 (some .int) :: wsL_law0, rmL 1, RJ3, (some .int), 3)
theorem ct_J3_checkIndex_8e157 : Ct kJ3_checkIndex_8e157 yJ3_checkIndex_8e157 (fun a hi Q => ∃ i : Int, ∃ n : Int, ∃ m : Nat, a = [AI i, AI n, AR (m)] ∧ ((0 ≤ i ∧ i < n) ∧ inR n) ∧ ∀ v : Int, (v = i) → Q (AI v) hi) := by
  refine Ct.of (ws' := _) (by decide +kernel) rfl rfl ?_
  intro a hi Q hT
  obtain ⟨i, n, m, rfl, hpre, hQ⟩ := hT
  refine ⟨Nat.le_of_ble_eq_true rfl, ?_⟩
  show Z kJ3_checkIndex_8e157 Q 0 [(0, AI i), (1, AI n), (2, AR m)] [] hi
  refine z_iload_n (pc := 0) dJ3_checkIndex_8e157_0 rfl 0 rfl ?_
  refine z_if_lt (pc := 1) (tgt := 9) dJ3_checkIndex_8e157_1 (by decide) ⟨by omega, by omega⟩ (fun c1 => ?_) (fun c1 => ?_)
  · exact absurd c1 (by omega)
  · refine z_iload_n (pc := 4) dJ3_checkIndex_8e157_4 rfl 0 rfl ?_
    refine z_iload_n (pc := 5) dJ3_checkIndex_8e157_5 rfl 1 rfl ?_
    refine z_icmp_lt (pc := 6) (tgt := 16) dJ3_checkIndex_8e157_6 (by decide) ⟨by omega, by omega⟩ ⟨by omega, by omega⟩ (fun c2 => ?_) (fun c2 => ?_)
    · refine z_iload_n (pc := 16) dJ3_checkIndex_8e157_16 rfl 0 rfl ?_
      refine z_iret (pc := 17) rfl dJ3_checkIndex_8e157_17 ?_
      exact hQ i (by omega)
    · exact absurd c2 (by omega)

abbrev kJ0_checkIndex_df160 : Kd := (cJ0_checkIndex_df160, .code yJ0_checkIndex_df160 cJ0_checkIndex_df160 2 none :: wsL_law0, rmL 2, RJ0, none, 2)
theorem ct_J0_checkIndex_df160 : Ct kJ0_checkIndex_df160 yJ0_checkIndex_df160 (fun a hi Q => ∃ i : Int, ∃ n : Int, a = [AI i, AI n] ∧ ((0 ≤ i ∧ i < n) ∧ inR n) ∧ ((True) → Q AU hi)) := by
  refine Ct.of (ws' := _) (by decide +kernel) rfl rfl ?_
  intro a hi Q hT
  obtain ⟨i, n, rfl, hpre, hQ⟩ := hT
  refine ⟨Nat.le_of_ble_eq_true rfl, ?_⟩
  show Z kJ0_checkIndex_df160 Q 0 [(0, AI i), (1, AI n)] [] hi
  refine z_iload_n (pc := 0) dJ0_checkIndex_df160_0 rfl 0 rfl ?_
  refine z_iload_n (pc := 1) dJ0_checkIndex_df160_1 rfl 1 rfl ?_
  refine z_getstF (pc := 2) (List.mem_cons_of_mem _ (iw20 _ (List.mem_of_getElem? (i := 23) rfl))) dJ0_checkIndex_df160_2 (fun n1 => ?_)
  refine z_callS (pc := 5) (kc := kJ3_checkIndex_8e157) (n := 3) (As := [AI i, AI n, AR n1]) (stk := []) ct_J3_checkIndex_8e157 (gdS rfl rfl (iw21 _ (List.mem_of_getElem? (i := 0) rfl)) (iw21 _ (List.mem_of_getElem? (i := 1) rfl)) (iw21 _ (List.mem_of_getElem? (i := 2) rfl)) (iw21 _ (List.mem_of_getElem? (i := 3) rfl))) rfl ⟨rfl, rfl⟩ (by decide +kernel) ⟨by decide, by decide⟩ dJ0_checkIndex_df160_5 rfl rfl (Nat.le_of_ble_eq_true rfl) ?_
  refine ⟨_, _, _, rfl, by omega, fun v2 ev2 => ?_⟩
  refine z_pop (pc := 8) dJ0_checkIndex_df160_8 rfl ?_
  refine z_vret (pc := 9) rfl dJ0_checkIndex_df160_9 ?_
  exact hQ (trivial)

abbrev kJ0_coder_7d493 : Kd := (cJ0_coder_7d493, .code yJ0_coder_7d493 cJ0_coder_7d493 1 (some .byte) :: wsL_law0, rmL 1, RJ0, (some .byte), 1)
theorem ct_J0_coder_7d493 : Ct kJ0_coder_7d493 yJ0_coder_7d493 (fun a hi Q => ∃ z : Nat, a = [AR (201 + z)] ∧ (z < 46) ∧ ∀ v : Int, (v = 0) → Q (AI v) hi) := by
  refine Ct.of (ws' := _) (by decide +kernel) rfl rfl ?_
  intro a hi Q hT
  obtain ⟨z, rfl, hpre, hQ⟩ := hT
  refine ⟨Nat.le_of_ble_eq_true rfl, ?_⟩
  show Z kJ0_coder_7d493 Q 0 [(0, AR (201 + z))] [] hi
  refine z_getstC (pc := 0) (List.mem_cons_of_mem _ (iw20 _ (List.mem_of_getElem? (i := 6) rfl))) dJ0_coder_7d493_0 ?_
  refine z_if_eq (pc := 3) (tgt := 13) dJ0_coder_7d493_3 (by decide) ⟨by decide, by decide⟩ (fun q => absurd q (by decide)) (fun _ => ?_)
  refine z_aload_n (pc := 6) (x := (201 + z)) dJ0_coder_7d493_6 rfl 0 rfl ?_
  refine z_getSC (pc := 7) (by omega) (List.mem_cons_of_mem _ (iw20 _ (List.mem_of_getElem? (i := 7) rfl))) dJ0_coder_7d493_7 ?_
  refine z_goto (pc := 10) (tgt := 14) dJ0_coder_7d493_10 (by decide) ?_
  refine z_bret0 (pc := 14) rfl dJ0_coder_7d493_14 ?_
  exact hQ 0 (rfl)

abbrev kJ0_isLatin1_aae02 : Kd := (cJ0_isLatin1_aae02, .code yJ0_isLatin1_aae02 cJ0_isLatin1_aae02 1 (some .boolean) :: wsL_law0, rmL 1, RJ0, (some .boolean), 1)
theorem ct_J0_isLatin1_aae02 : Ct kJ0_isLatin1_aae02 yJ0_isLatin1_aae02 (fun a hi Q => ∃ z : Nat, a = [AR (201 + z)] ∧ (z < 46) ∧ ∀ v : Int, (v = 1) → Q (AI v) hi) := by
  refine Ct.of (ws' := _) (by decide +kernel) rfl rfl ?_
  intro a hi Q hT
  obtain ⟨z, rfl, hpre, hQ⟩ := hT
  refine ⟨Nat.le_of_ble_eq_true rfl, ?_⟩
  show Z kJ0_isLatin1_aae02 Q 0 [(0, AR (201 + z))] [] hi
  refine z_getstC (pc := 0) (List.mem_cons_of_mem _ (iw20 _ (List.mem_of_getElem? (i := 6) rfl))) dJ0_isLatin1_aae02_0 ?_
  refine z_if_eq (pc := 3) (tgt := 17) dJ0_isLatin1_aae02_3 (by decide) ⟨by decide, by decide⟩ (fun q => absurd q (by decide)) (fun _ => ?_)
  refine z_aload_n (pc := 6) (x := (201 + z)) dJ0_isLatin1_aae02_6 rfl 0 rfl ?_
  refine z_getSC (pc := 7) (by omega) (List.mem_cons_of_mem _ (iw20 _ (List.mem_of_getElem? (i := 7) rfl))) dJ0_isLatin1_aae02_7 ?_
  refine z_if_ne (pc := 10) (tgt := 17) dJ0_isLatin1_aae02_10 (by decide) ⟨by decide, by decide⟩ (fun q => absurd q (by decide)) (fun _ => ?_)
  refine z_iconst (pc := 13) (v := 1) dJ0_isLatin1_aae02_13 rfl ?_
  refine z_goto (pc := 14) (tgt := 18) dJ0_isLatin1_aae02_14 (by decide) ?_
  refine z_zret (pc := 18) rfl (by decide) dJ0_isLatin1_aae02_18 ?_
  exact hQ 1 (rfl)

abbrev kJ0_length_8abf5 : Kd := (cJ0_length_8abf5, .code yJ0_length_8abf5 cJ0_length_8abf5 1 (some .int) :: wsL_law0, rmL 2, RJ0, (some .int), 1)
theorem ct_J0_length_8abf5 : Ct kJ0_length_8abf5 yJ0_length_8abf5 (fun a hi Q => ∃ z : Nat, a = [AR (201 + z)] ∧ (z < 46) ∧ ∀ v : Int, (v = ((sgB.getD z []).length : Nat)) → Q (AI v) hi) := by
  refine Ct.of (ws' := _) (by decide +kernel) rfl rfl ?_
  intro a hi Q hT
  obtain ⟨z, rfl, hpre, hQ⟩ := hT
  refine ⟨Nat.le_of_ble_eq_true rfl, ?_⟩
  show Z kJ0_length_8abf5 Q 0 [(0, AR (201 + z))] [] hi
  refine z_aload_n (pc := 0) (x := (201 + z)) dJ0_length_8abf5_0 rfl 0 rfl ?_
  refine z_getSV (pc := 1) (by omega) (List.mem_cons_of_mem _ (iw20 _ (List.mem_of_getElem? (i := 1) rfl))) dJ0_length_8abf5_1 ?_
  refine z_lenSB (pc := 4) (by omega) dJ0_length_8abf5_4 (fun v1 ev1 => ?_)
  refine z_aload_n (pc := 5) (x := (201 + z)) dJ0_length_8abf5_5 rfl 0 rfl ?_
  refine z_callVO (pc := 6) (kc := kJ0_coder_7d493) (n := 0) (z := z) (As := []) (stk := [AI v1]) ct_J0_coder_7d493 (gdV rfl rfl (iw20 _ (List.mem_of_getElem? (i := 2) rfl)) (iw20 _ (List.mem_of_getElem? (i := 3) rfl)) (iw20 _ (List.mem_of_getElem? (i := 4) rfl)) (iw19 _ (List.mem_of_getElem? (i := 23) rfl)) (iw20 _ (List.mem_of_getElem? (i := 5) rfl))) rfl ⟨rfl, rfl⟩ (by decide +kernel) ⟨by decide, by decide⟩ (by omega) dJ0_length_8abf5_6 rfl rfl (Nat.le_of_ble_eq_true rfl) ?_
  refine ⟨_, rfl, by omega, fun v2 ev2 => ?_⟩
  refine z_ishr (pc := 9) dJ0_length_8abf5_9 (fun v3 ev3 => ?_)
  have bv3 := toI_inR ev3
  have bz := sgB_bd hpre
  have y0 : v2 = ((0 : Nat) : Int) := by omega
  rw [y0] at ev3
  have sv3 := shrI (k := 0) (by decide) (by omega) ev3
  refine z_iret (pc := 10) rfl dJ0_length_8abf5_10 ?_
  exact hQ v3 (by omega)

abbrev kJ1_charAt_3b067 : Kd := (cJ1_charAt_3b067, .code yJ1_charAt_3b067 cJ1_charAt_3b067 2 (some .char) :: wsL_law0, rmL 3, RJ1, (some .char), 2)
theorem ct_J1_charAt_3b067 : Ct kJ1_charAt_3b067 yJ1_charAt_3b067 (fun a hi Q => ∃ z : Nat, ∃ i : Int, a = [AR (301 + z), AI i] ∧ (z < 46 ∧ 0 ≤ i ∧ i < ((sgB.getD z []).length : Nat)) ∧ ∀ v : Int, (v = (sgB.getD z []).getD i.toNat 0) → Q (AI v) hi) := by
  refine Ct.of (ws' := _) (by decide +kernel) rfl rfl ?_
  intro a hi Q hT
  obtain ⟨z, i, rfl, hpre, hQ⟩ := hT
  refine ⟨Nat.le_of_ble_eq_true rfl, ?_⟩
  show Z kJ1_charAt_3b067 Q 0 [(0, AR (301 + z)), (1, AI i)] [] hi
  refine z_iload_n (pc := 0) dJ1_charAt_3b067_0 rfl 1 rfl ?_
  refine z_aload_n (pc := 1) (x := (301 + z)) dJ1_charAt_3b067_1 rfl 0 rfl ?_
  refine z_lenSB (pc := 2) (by omega) dJ1_charAt_3b067_2 (fun v1 ev1 => ?_)
  refine z_callS (pc := 3) (kc := kJ0_checkIndex_df160) (n := 2) (As := [AI i, AI v1]) (stk := []) ct_J0_checkIndex_df160 (gdS rfl rfl (iw20 _ (List.mem_of_getElem? (i := 20) rfl)) (iw20 _ (List.mem_of_getElem? (i := 21) rfl)) (iw19 _ (List.mem_of_getElem? (i := 23) rfl)) (iw20 _ (List.mem_of_getElem? (i := 22) rfl))) rfl ⟨rfl, rfl⟩ (by decide +kernel) ⟨by decide, by decide⟩ dJ1_charAt_3b067_3 rfl rfl (Nat.le_of_ble_eq_true rfl) ?_
  refine ⟨_, _, rfl, by have bz := sgB_bd hpre.1; omega, fun q1 => ?_⟩
  refine z_aload_n (pc := 6) (x := (301 + z)) dJ1_charAt_3b067_6 rfl 0 rfl ?_
  refine z_iload_n (pc := 7) dJ1_charAt_3b067_7 rfl 1 rfl ?_
  refine z_baldSB (pc := 8) (by omega) (by have := sgB_bd (show z < 46 by omega); omega) (by omega) (by omega) dJ1_charAt_3b067_8 (fun v2 ev2 => ?_)
  have cz := sgB_ch (z := z) (i := i.toNat) hpre.1 (by omega)
  refine z_sipush (pc := 9) (v := 255) dJ1_charAt_3b067_9 (by decide +kernel) ?_
  refine z_iand (pc := 12) dJ1_charAt_3b067_12 (fun v3 ev3 => ?_)
  have bv3 := toI_inR ev3
  have sv3 := and255 ev3
  refine z_i2c (pc := 13) (by omega) dJ1_charAt_3b067_13 ?_
  refine z_cret (pc := 14) rfl (by omega) dJ1_charAt_3b067_14 ?_
  exact hQ v3 (by omega)

abbrev kJ0_charAt_5068e : Kd := (cJ0_charAt_5068e, .code yJ0_charAt_5068e cJ0_charAt_5068e 2 (some .char) :: wsL_law0, rmL 5, RJ0, (some .char), 2)
theorem ct_J0_charAt_5068e : Ct kJ0_charAt_5068e yJ0_charAt_5068e (fun a hi Q => ∃ z : Nat, ∃ i : Int, a = [AR (201 + z), AI i] ∧ (z < 46 ∧ 0 ≤ i ∧ i < ((sgB.getD z []).length : Nat)) ∧ ∀ v : Int, (v = (sgB.getD z []).getD i.toNat 0) → Q (AI v) hi) := by
  refine Ct.of (ws' := _) (by decide +kernel) rfl rfl ?_
  intro a hi Q hT
  obtain ⟨z, i, rfl, hpre, hQ⟩ := hT
  refine ⟨Nat.le_of_ble_eq_true rfl, ?_⟩
  show Z kJ0_charAt_5068e Q 0 [(0, AR (201 + z)), (1, AI i)] [] hi
  refine z_aload_n (pc := 0) (x := (201 + z)) dJ0_charAt_5068e_0 rfl 0 rfl ?_
  refine z_callVO (pc := 1) (kc := kJ0_isLatin1_aae02) (n := 0) (z := z) (As := []) (stk := []) ct_J0_isLatin1_aae02 (gdV rfl rfl (iw20 _ (List.mem_of_getElem? (i := 12) rfl)) (iw20 _ (List.mem_of_getElem? (i := 13) rfl)) (iw20 _ (List.mem_of_getElem? (i := 14) rfl)) (iw19 _ (List.mem_of_getElem? (i := 23) rfl)) (iw20 _ (List.mem_of_getElem? (i := 15) rfl))) rfl ⟨rfl, rfl⟩ (by decide +kernel) ⟨by decide, by decide⟩ (by omega) dJ0_charAt_5068e_1 rfl rfl (Nat.le_of_ble_eq_true rfl) ?_
  refine ⟨_, rfl, by omega, fun v1 ev1 => ?_⟩
  refine z_if_eq (pc := 4) (tgt := 16) dJ0_charAt_5068e_4 (by decide) ⟨by omega, by omega⟩ (fun c2 => ?_) (fun c2 => ?_)
  · exact absurd c2 (by omega)
  · refine z_aload_n (pc := 7) (x := (201 + z)) dJ0_charAt_5068e_7 rfl 0 rfl ?_
    refine z_getSV (pc := 8) (by omega) (List.mem_cons_of_mem _ (iw20 _ (List.mem_of_getElem? (i := 1) rfl))) dJ0_charAt_5068e_8 ?_
    refine z_iload_n (pc := 11) dJ0_charAt_5068e_11 rfl 1 rfl ?_
    refine z_callS (pc := 12) (kc := kJ1_charAt_3b067) (n := 2) (As := [AR (301 + z), AI i]) (stk := []) ct_J1_charAt_3b067 (gdS rfl rfl (iw20 _ (List.mem_of_getElem? (i := 16) rfl)) (iw20 _ (List.mem_of_getElem? (i := 17) rfl)) (iw20 _ (List.mem_of_getElem? (i := 18) rfl)) (iw20 _ (List.mem_of_getElem? (i := 19) rfl))) rfl ⟨rfl, rfl⟩ (by decide +kernel) ⟨by decide, by decide⟩ dJ0_charAt_5068e_12 rfl rfl (Nat.le_of_ble_eq_true rfl) ?_
    refine ⟨_, _, rfl, by omega, fun v3 ev3 => ?_⟩
    have cz := sgB_ch (z := z) (i := i.toNat) hpre.1 (by omega)
    refine z_cret (pc := 15) rfl (by omega) dJ0_charAt_5068e_15 ?_
    exact hQ v3 (by omega)

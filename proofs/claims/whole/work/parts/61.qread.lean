theorem ct_rec : ∀ d : Nat, Ct (kX4_factHolds d) yX4_factHolds (fun a hi Q => ∃ o : Int, ∃ S : Nat → Int, ∃ P : Nat → Int, ∃ V : Nat → Int, ∃ m : Nat, ∃ c : Nat, ∃ W : List Int, ∃ G : List Ex, a = [AR 36, AI o] ∧ ((TS hi S P V m c) ∧ ((hi 35 3 = 0 ∨ hi 35 3 = 1) ∧ (∀ j : Nat, j < 6 → -4000 ≤ hi 36 j ∧ hi 36 j ≤ 4000) ∧ (∀ i : Nat, i ≤ m → S i = 2 → 0 ≤ V i ∧ V i ≤ 999)) ∧ (o + d = 5 ∧ (opn W : Int) = o ∧ 0 ≤ o)) ∧ ∀ (v : Int) (h2 : HI), (Fr [29] hi h2 ∧ FF 29 [6, 7, 8] hi h2 ∧ ((v = 0 ∨ v = 1) ∧ ((∃ k p, TF h2 S P V m k p ∧ res (hi 35 3) S P V (0, c, W, G) = .inl (k, p)) ∨ (∃ (c2 : Nat) (g : Ex), TS h2 S P V m c2 ∧ c < c2 ∧ v = g (hi 36) ∧ QG (hi 35 3) g ∧ res (hi 35 3) S P V (0, c, W, G) = res (hi 35 3) S P V (1, c2, W, g :: G))))) → Q (AI v) h2) ∧ Ct (kX4_condHolds d) yX4_condHolds (fun a hi Q => ∃ o : Int, ∃ S : Nat → Int, ∃ P : Nat → Int, ∃ V : Nat → Int, ∃ m : Nat, ∃ c : Nat, ∃ W : List Int, ∃ G : List Ex, a = [AR 36, AI o] ∧ ((TS hi S P V m c) ∧ ((hi 35 3 = 0 ∨ hi 35 3 = 1) ∧ (∀ j : Nat, j < 6 → -4000 ≤ hi 36 j ∧ hi 36 j ≤ 4000) ∧ (∀ i : Nat, i ≤ m → S i = 2 → 0 ≤ V i ∧ V i ≤ 999)) ∧ (o + d = 5 ∧ (opn W : Int) = o ∧ 0 ≤ o) ∧ (topW W ≠ 7 ∧ topW W ≠ 8 ∧ topW W ≠ 9)) ∧ ∀ (v : Int) (h2 : HI), (Fr [29] hi h2 ∧ FF 29 [6, 7, 8] hi h2 ∧ ((v = 0 ∨ v = 1) ∧ ((∃ k p, TF h2 S P V m k p ∧ res (hi 35 3) S P V (0, c, W, G) = .inl (k, p)) ∨ (∃ (c2 : Nat) (g : Ex), TS h2 S P V m c2 ∧ c < c2 ∧ v = g (hi 36) ∧ QG (hi 35 3) g ∧ (S c2 ≠ 27 ∧ S c2 ≠ 28) ∧ res (hi 35 3) S P V (0, c, W, G) = res (hi 35 3) S P V (1, c2, W, g :: G))))) → Q (AI v) h2) := by
  intro d
  induction d using Nat.strongRecOn with
  | _ d ih =>
    have hf := ct_X4_factHolds_TS d (fun e he => (ih e (by omega)).1) (fun e he => (ih e (by omega)).2)
    exact ⟨hf, ct_X4_condHolds_TS d hf⟩
def TE (hi : HI) (S P V : Nat → Int) (m : Nat) : Prop := TB hi S P V m ∧ hi 29 7 = 0
theorem TE.of {hi : HI} {S P V : Nat → Int} {m c : Nat} (h : TS hi S P V m c) : TE hi S P V m := ⟨h.1, h.2.2.2⟩
theorem TE.pas {hi : HI} {S P V : Nat → Int} {m : Nat} (h : TE hi S P V m) : TE (pasH hi) S P V m := by
  obtain ⟨⟨a1, a2, a3, a4, a5, a6, a7⟩, b2⟩ := h
  unfold pasH; split
  · refine ⟨⟨?_, a2, ?_, ?_, ?_, a6, a7⟩, ?_⟩
    · rw [hput_same, updI_ne _ _ (by decide)]; exact a1
    · rw [hput_ne _ _ (by decide)]; exact a3
    · rw [hput_ne _ _ (by decide)]; exact a4
    · rw [hput_ne _ _ (by decide)]; exact a5
    · rw [hput_same, updI_ne _ _ (by decide)]; exact b2
  · exact ⟨⟨a1, a2, a3, a4, a5, a6, a7⟩, b2⟩
theorem TE.kp {hi h2 : HI} {S P V : Nat → Int} {m : Nat} (h : TE hi S P V m) (e5 : h2 29 5 = hi 29 5) (e7 : h2 29 7 = hi 29 7) (e31 : h2 31 = hi 31) (e32 : h2 32 = hi 32) (e33 : h2 33 = hi 33) : TE h2 S P V m := ⟨h.1.kp e5 e31 e32 e33, e7.trans h.2⟩
/-- a question, by its tokens -/
def ohF (S : Nat → Int) : Int := if S 0 = 24 ∨ S 0 = 25 then 1 else 0
def qF (S P V : Nat → Int) : QR := if S 0 = 23 ∨ S 0 = 34 ∨ S 0 = 24 ∨ S 0 = 25 then (if S 1 = 26 then res (ohF S) S P V (0, 2, [], []) else .inl (1, P 1)) else .inl (1, P 0)
theorem ohF_1 {S : Nat → Int} (h : S 0 = 24 ∨ S 0 = 25) : ohF S = 1 := if_pos h
theorem ohF_0 {S : Nat → Int} (h : ¬ (S 0 = 24 ∨ S 0 = 25)) : ohF S = 0 := if_neg h
theorem qF_0 {S P V : Nat → Int} (h : ¬ (S 0 = 23 ∨ S 0 = 34 ∨ S 0 = 24 ∨ S 0 = 25)) : qF S P V = .inl (1, P 0) := if_neg h
theorem qF_1 {S P V : Nat → Int} (h : S 0 = 23 ∨ S 0 = 34 ∨ S 0 = 24 ∨ S 0 = 25) (h1 : ¬ S 1 = 26) : qF S P V = .inl (1, P 1) := by unfold qF; rw [if_pos h, if_neg h1]
theorem qF_2 {S P V : Nat → Int} {oh : Int} (h : S 0 = 23 ∨ S 0 = 34 ∨ S 0 = 24 ∨ S 0 = 25) (h1 : S 1 = 26) (ho : oh = ohF S) : qF S P V = res oh S P V (0, 2, [], []) := by unfold qF; rw [if_pos h, if_pos h1, ho]
theorem r_fin {oh : Int} {S P V : Nat → Int} {c2 : Nat} {g : Ex} (h27 : S c2 ≠ 27) (h28 : S c2 ≠ 28) (h0 : S c2 ≠ 0) : res oh S P V (1, c2, [], [g]) = .inl (1, P c2) :=
  r_bad (by show (0 : Int) ≠ 7; decide) (by show (0 : Int) ≠ 8; decide) h27 h28 (by rintro (z | z); exact absurd z.2 List.not_mem_nil; exact h0 z.1)
theorem r_uq {oh : Int} {S P V : Nat → Int} {c2 : Nat} {g G : Ex} (h27 : S c2 ≠ 27) (h28 : S c2 ≠ 28) (h : res oh S P V (1, c2, [], [g]) = .inr G) : g = G := by
  by_cases q : S c2 = 0
  · rw [r_end q] at h; exact Sum.inr.inj h
  · rw [r_fin h27 h28 q] at h; cases h

theorem ct_X4_condHolds_0 : Ct (kX4_condHolds 5) yX4_condHolds (fun a hi Q => ∃ o : Int, ∃ S : Nat → Int, ∃ P : Nat → Int, ∃ V : Nat → Int, ∃ m : Nat, ∃ c : Nat, a = [AR 36, AI o] ∧ ((TS hi S P V m c) ∧ ((hi 35 3 = 0 ∨ hi 35 3 = 1) ∧ (∀ j : Nat, j < 6 → -4000 ≤ hi 36 j ∧ hi 36 j ≤ 4000) ∧ (∀ i : Nat, i ≤ m → S i = 2 → 0 ≤ V i ∧ V i ≤ 999)) ∧ o = 0) ∧ ∀ (v : Int) (h2 : HI), (Fr [29] hi h2 ∧ FF 29 [6, 7, 8] hi h2 ∧ ((v = 0 ∨ v = 1) ∧ ((∃ k p, TF h2 S P V m k p ∧ res (hi 35 3) S P V (0, c, [], []) = .inl (k, p)) ∨ (∃ (c2 : Nat) (g : Ex), TS h2 S P V m c2 ∧ c < c2 ∧ v = g (hi 36) ∧ QG (hi 35 3) g ∧ (S c2 ≠ 27 ∧ S c2 ≠ 28) ∧ res (hi 35 3) S P V (0, c, [], []) = res (hi 35 3) S P V (1, c2, [], [g]))))) → Q (AI v) h2) := Ct.mono (ct_rec 5).2 (fun a hi Q ⟨o, S, P, V, m, c, ha, ⟨h1, h2, h3⟩, hq⟩ => ⟨o, S, P, V, m, c, [], [], ha, ⟨h1, h2, ⟨by omega, by rw [h3]; rfl, by omega⟩, by show (0 : Int) ≠ 7; decide, by show (0 : Int) ≠ 8; decide, by show (0 : Int) ≠ 9; decide⟩, hq⟩)

theorem ct_X6_expect_0 : Ct kX6_expect yX6_expect (fun a hi Q => ∃ s : Int, ∃ S : Nat → Int, ∃ P : Nat → Int, ∃ V : Nat → Int, ∃ m : Nat, ∃ c : Nat, a = [AR 30, AR (ec s)] ∧ (TS hi S P V m c ∧ s = 0) ∧ ∀ h2 : HI, (Fr [29] hi h2 ∧ FF 29 [6, 7, 8] hi h2 ∧ ((S c = 0 ∧ TE h2 S P V m) ∨ (S c ≠ 0 ∧ TF h2 S P V m 1 (P c)))) → Q AU h2) := Ct.mono ct_X6_expect (fun a hi Q ⟨s, S, P, V, m, c, ha, ⟨h, h0⟩, hq⟩ => ⟨s, ha, ⟨h.1.ti, by omega⟩, fun h2 ⟨q, r⟩ => hq h2 ⟨q, by rw [r]; split; exact pas_ff hi; exact fai_ff hi 1, by rw [h.sg1, h0] at r; by_cases e : S c = 0; rw [if_pos e] at r; exact Or.inl ⟨e, by rw [r]; exact (TE.of h).pas⟩; rw [if_neg e] at r; exact Or.inr ⟨e, by rw [r]; exact h.fai (by decide)⟩⟩⟩)

theorem ct_X6_cursor_TS : Ct kX6_cursor yX6_cursor (fun a hi Q => ∃ S : Nat → Int, ∃ P : Nat → Int, ∃ V : Nat → Int, ∃ m : Nat, ∃ c : Nat, a = [AR 30] ∧ (TS hi S P V m c) ∧ ∀ v : Int, (v = c) → Q (AI v) hi) := Ct.mono ct_X6_cursor (fun a hi Q ⟨S, P, V, m, c, ha, h, hq⟩ => ⟨ha, trivial, fun v q => hq v (q.1.trans h.2.2.1)⟩)

theorem ct_X6_cursor_TF : Ct kX6_cursor yX6_cursor (fun a hi Q => ∃ S : Nat → Int, ∃ P : Nat → Int, ∃ V : Nat → Int, ∃ m : Nat, ∃ k : Int, ∃ p : Int, a = [AR 30] ∧ (TF hi S P V m k p) ∧ ∀ v : Int, (inR v) → Q (AI v) hi) := Ct.mono ct_X6_cursor (fun a hi Q ⟨S, P, V, m, k, p, ha, h, hq⟩ => ⟨ha, trivial, fun v q => hq v q.2⟩)

abbrev kX4_read : Kd := (cX4_read, .code yX4_read cX4_read 1 none :: wsL_law0, rmL 17, RX4, none, 1)
theorem ct_X4_read_TS : Ct kX4_read yX4_read (fun a hi Q => ∃ S : Nat → Int, ∃ P : Nat → Int, ∃ V : Nat → Int, ∃ m : Nat, ∃ c : Nat, a = [AR 36] ∧ ((TS hi S P V m c) ∧ (∀ j : Nat, j < 6 → -4000 ≤ hi 36 j ∧ hi 36 j ≤ 4000) ∧ (∀ i : Nat, i ≤ m → S i = 2 → 0 ≤ V i ∧ V i ≤ 999) ∧ c = 0) ∧ ∀ h2 : HI, (Fr [29, 35] hi h2 ∧ FF 29 [6, 7, 8] hi h2 ∧ FF 35 [2, 3, 4] hi h2 ∧ ((∃ k p, TF h2 S P V m k p ∧ qF S P V = .inl (k, p)) ∨ (∃ g, TE h2 S P V m ∧ qF S P V = .inr g ∧ QG (ohF S) g ∧ (S 0 = 23 ∨ S 0 = 34 ∨ S 0 = 24 ∨ S 0 = 25) ∧ h2 35 2 = S 0 ∧ h2 35 3 = ohF S ∧ h2 35 4 = 2))) → Q AU h2) := by
  refine Ct.of (ws' := _) (by decide +kernel) rfl rfl ?_
  intro a hi Q hT
  obtain ⟨S, P, V, m, c, rfl, hpre, hQ⟩ := hT
  refine ⟨Nat.le_of_ble_eq_true rfl, ?_⟩
  show Z kX4_read Q 0 [(0, AR 36)] [] hi
  have t0 := hpre.1
  obtain ⟨hph, hV, c0⟩ := hpre.2
  subst c0
  refine z_aload_n (pc := 0) (x := 36) dX4_read_0 rfl 0 rfl ?_
  refine z_aload_n (pc := 1) (x := 36) dX4_read_1 rfl 0 rfl ?_
  refine z_getR (pc := 2) (pl := 35) (f := 0) (ci := 4) (C := RX4) (T := TX4) (N := 5) hu_X4 (by decide) rfl rfl (by decide) rfl (List.mem_cons_of_mem _ (iw4 _ (List.mem_of_getElem? (i := 19) rfl))) rfl dX4_read_2 ?_
  refine z_callV (pc := 5) (kc := kX6_sign) (n := 0) (pl := 29) (ci := 5) (C := RX6) (As := []) (stk := [AR 36]) ct_X6_sign_TS (gdV rfl rfl (iw31 _ (List.mem_of_getElem? (i := 23) rfl)) (iw22 _ (List.mem_of_getElem? (i := 10) rfl)) (iw22 _ (List.mem_of_getElem? (i := 11) rfl)) (iw2 _ (List.mem_of_getElem? (i := 4) rfl)) (iw22 _ (List.mem_of_getElem? (i := 12) rfl))) rfl ⟨rfl, rfl⟩ (by decide +kernel) ⟨by decide, by decide⟩ (by decide) rfl rfl dX4_read_5 rfl rfl (Nat.le_of_ble_eq_true rfl) ?_
  refine ⟨S, P, V, m, 0, rfl, t0, fun v1 ev1 => ?_⟩
  have sb := ev1.2
  refine z_putE (pc := 8) (pl := 35) (f := 2) (ci := 4) (C := RX4) (T := TX4) (N := 5) hu_X4 tyX4_ok nmX4 (by decide) rfl rfl (by decide) rfl (List.mem_cons_of_mem _ (iw4 _ (List.mem_of_getElem? (i := 16) rfl))) rfl rfl (by decide +kernel) (by omega) dX4_read_8 (fun h2 eh2 => ?_)
  have frh2 : Fr [29, 35] hi h2 := (Fr.put (Fr.rf) eh2 (by decide))
  have ff29h2 : FF 29 [6, 7, 8] hi h2 := FF.oth (FF.rf) eh2 (by decide)
  have ff35h2 : FF 35 [2, 3, 4] hi h2 := FF.put (FF.rf) eh2 (by decide)
  have th2 : TS h2 S P V m 0 := TS.oth t0 eh2 (by decide)
  refine z_aload_n (pc := 11) (x := 36) dX4_read_11 rfl 0 rfl ?_
  refine z_aload_n (pc := 12) (x := 36) dX4_read_12 rfl 0 rfl ?_
  refine z_getE (pc := 13) (pl := 35) (f := 2) (ci := 4) (C := RX4) (T := TX4) (N := 5) hu_X4 (by decide) rfl rfl (by decide) rfl (List.mem_cons_of_mem _ (iw4 _ (List.mem_of_getElem? (i := 16) rfl))) rfl dX4_read_13 (fun v3 ev3 => ?_)
  rw [(by rw [eh2]; rfl : h2 35 2 = v1)] at ev3
  refine z_getstE (pc := 16) (i := 24) (z := 24) (by decide) rfl (List.mem_cons_of_mem _ (iw31 _ (List.mem_of_getElem? (i := 18) rfl))) dX4_read_16 ?_
  refine z_acmp_eq (pc := 19) (tgt := 32) dX4_read_19 (by decide) (by omega) (by omega) (fun c4 => ?_) (fun c4 => ?_)
  · refine z_iconst (pc := 32) (v := 1) dX4_read_32 rfl ?_
    refine z_goto (pc := 33) (tgt := 37) dX4_read_33 (by decide) ?_
    refine z_putI (pc := 37) (pl := 35) (f := 3) (ci := 4) (C := RX4) (T := TX4) (N := 5) hu_X4 tyX4_ok nmX4 (by decide) rfl rfl (by decide) rfl (List.mem_cons_of_mem _ (iw4 _ (List.mem_of_getElem? (i := 17) rfl))) rfl rfl (ty := .boolean) (by decide +kernel) rfl rfl ⟨by decide, by decide⟩ dX4_read_37 (fun h5 eh5 => ?_)
    have frh5 : Fr [29, 35] hi h5 := (Fr.put frh2 eh5 (by decide))
    have ff29h5 : FF 29 [6, 7, 8] hi h5 := FF.oth ff29h2 eh5 (by decide)
    have ff35h5 : FF 35 [2, 3, 4] hi h5 := FF.put ff35h2 eh5 (by decide)
    have th5 : TS h5 S P V m 0 := TS.oth th2 eh5 (by decide)
    refine z_aload_n (pc := 40) (x := 36) dX4_read_40 rfl 0 rfl ?_
    refine z_getI (pc := 41) (pl := 35) (f := 3) (ci := 4) (C := RX4) (T := TX4) (N := 5) hu_X4 (by decide) rfl rfl (by decide) rfl (List.mem_cons_of_mem _ (iw4 _ (List.mem_of_getElem? (i := 17) rfl))) rfl (by decide) dX4_read_41 (fun v6 ev6 rv6 => ?_)
    rw [(by rw [eh5]; rfl : h5 35 3 = 1)] at ev6
    obtain rfl : v6 = 1 := ev6
    refine z_if_ne (pc := 44) (tgt := 75) dX4_read_44 (by decide) ⟨by decide, by decide⟩ (fun _ => ?_) (fun q => absurd q (by decide))
    refine z_aload_n (pc := 75) (x := 36) dX4_read_75 rfl 0 rfl ?_
    refine z_getR (pc := 76) (pl := 35) (f := 0) (ci := 4) (C := RX4) (T := TX4) (N := 5) hu_X4 (by decide) rfl rfl (by decide) rfl (List.mem_cons_of_mem _ (iw4 _ (List.mem_of_getElem? (i := 19) rfl))) rfl dX4_read_76 ?_
    refine z_callV (pc := 79) (kc := kX6_pass) (n := 0) (pl := 29) (ci := 5) (C := RX6) (As := []) (stk := []) ct_X6_pass_TS (gdV rfl rfl (iw32 _ (List.mem_of_getElem? (i := 1) rfl)) (iw23 _ (List.mem_of_getElem? (i := 5) rfl)) (iw23 _ (List.mem_of_getElem? (i := 6) rfl)) (iw2 _ (List.mem_of_getElem? (i := 4) rfl)) (iw23 _ (List.mem_of_getElem? (i := 7) rfl))) rfl ⟨rfl, rfl⟩ (by decide +kernel) ⟨by decide, by decide⟩ (by decide) rfl rfl dX4_read_79 rfl rfl (Nat.le_of_ble_eq_true rfl) ?_
    refine ⟨S, P, V, m, 0, rfl, ⟨th5, by omega⟩, fun v7 h8 eh8 => ?_⟩
    have frh8 : Fr [29, 35] hi h8 := (Fr.call frh5 eh8.1 (by decide))
    have ff29h8 : FF 29 [6, 7, 8] hi h8 := FF.call ff29h5 (eh8.2.1) (by decide)
    have ff35h8 : FF 35 [2, 3, 4] hi h8 := FF.call0 ff35h5 eh8.1 (by decide)
    have eph8 := eh8.2.2
    replace eh8 := And.intro eh8.1 (And.intro eh8.2.1 trivial)
    obtain ⟨gh8, th8⟩ := eph8
    refine z_pop (pc := 82) dX4_read_82 rfl ?_
    refine z_aload_n (pc := 83) (x := 36) dX4_read_83 rfl 0 rfl ?_
    refine z_getR (pc := 84) (pl := 35) (f := 0) (ci := 4) (C := RX4) (T := TX4) (N := 5) hu_X4 (by decide) rfl rfl (by decide) rfl (List.mem_cons_of_mem _ (iw4 _ (List.mem_of_getElem? (i := 19) rfl))) rfl dX4_read_84 ?_
    refine z_getstE (pc := 87) (i := 26) (z := 26) (by decide) rfl (List.mem_cons_of_mem _ (iw31 _ (List.mem_of_getElem? (i := 21) rfl))) dX4_read_87 ?_
    refine z_callV (pc := 90) (kc := kX6_expect) (n := 1) (pl := 29) (ci := 5) (C := RX6) (As := [AR (ec 26)]) (stk := []) ct_X6_expect_TS (gdV rfl rfl (iw32 _ (List.mem_of_getElem? (i := 2) rfl)) (iw24 _ (List.mem_of_getElem? (i := 12) rfl)) (iw24 _ (List.mem_of_getElem? (i := 13) rfl)) (iw2 _ (List.mem_of_getElem? (i := 4) rfl)) (iw24 _ (List.mem_of_getElem? (i := 14) rfl))) rfl ⟨rfl, rfl⟩ (by decide +kernel) ⟨by decide, by decide⟩ (by decide) rfl rfl dX4_read_90 rfl rfl (Nat.le_of_ble_eq_true rfl) ?_
    refine ⟨_, S, P, V, m, (0 + 1), rfl, ⟨th8, by decide, by decide⟩, fun h9 eh9 => ?_⟩
    have frh9 : Fr [29, 35] hi h9 := (Fr.call frh8 eh9.1 (by decide))
    have ff29h9 : FF 29 [6, 7, 8] hi h9 := FF.call ff29h8 (eh9.2.1) (by decide)
    have ff35h9 : FF 35 [2, 3, 4] hi h9 := FF.call0 ff35h8 eh9.1 (by decide)
    have eph9 := eh9.2.2
    replace eh9 := And.intro eh9.1 (And.intro eh9.2.1 trivial)
    rcases eph9 with ⟨sh9, th9⟩ | ⟨sh9, th9⟩
    · skip
      refine z_aload_n (pc := 93) (x := 36) dX4_read_93 rfl 0 rfl ?_
      refine z_aload_n (pc := 94) (x := 36) dX4_read_94 rfl 0 rfl ?_
      refine z_getR (pc := 95) (pl := 35) (f := 0) (ci := 4) (C := RX4) (T := TX4) (N := 5) hu_X4 (by decide) rfl rfl (by decide) rfl (List.mem_cons_of_mem _ (iw4 _ (List.mem_of_getElem? (i := 19) rfl))) rfl dX4_read_95 ?_
      refine z_callV (pc := 98) (kc := kX6_cursor) (n := 0) (pl := 29) (ci := 5) (C := RX6) (As := []) (stk := [AR 36]) ct_X6_cursor_TS (gdV rfl rfl (iw32 _ (List.mem_of_getElem? (i := 3) rfl)) (iw32 _ (List.mem_of_getElem? (i := 4) rfl)) (iw32 _ (List.mem_of_getElem? (i := 5) rfl)) (iw2 _ (List.mem_of_getElem? (i := 4) rfl)) (iw32 _ (List.mem_of_getElem? (i := 6) rfl))) rfl ⟨rfl, rfl⟩ (by decide +kernel) ⟨by decide, by decide⟩ (by decide) rfl rfl dX4_read_98 rfl rfl (Nat.le_of_ble_eq_true rfl) ?_
      refine ⟨S, P, V, m, ((0 + 1) + 1), rfl, th9, fun v10 ev10 => ?_⟩
      refine z_putI (pc := 101) (pl := 35) (f := 4) (ci := 4) (C := RX4) (T := TX4) (N := 5) hu_X4 tyX4_ok nmX4 (by decide) rfl rfl (by decide) rfl (List.mem_cons_of_mem _ (iw4 _ (List.mem_of_getElem? (i := 18) rfl))) rfl rfl (ty := .int) (by decide +kernel) rfl rfl ⟨by omega, by omega⟩ dX4_read_101 (fun h11 eh11 => ?_)
      have frh11 : Fr [29, 35] hi h11 := (Fr.put frh9 eh11 (by decide))
      have ff29h11 : FF 29 [6, 7, 8] hi h11 := FF.oth ff29h9 eh11 (by decide)
      have ff35h11 : FF 35 [2, 3, 4] hi h11 := FF.put ff35h9 eh11 (by decide)
      have th11 : TS h11 S P V m ((0 + 1) + 1) := TS.oth th9 eh11 (by decide)
      refine z_aload_n (pc := 104) (x := 36) dX4_read_104 rfl 0 rfl ?_
      refine z_iconst (pc := 105) (v := 0) dX4_read_105 rfl ?_
      refine z_callV (pc := 106) (kc := (kX4_condHolds 5)) (n := 1) (pl := 35) (ci := 4) (C := RX4) (As := [AI 0]) (stk := []) ct_X4_condHolds_0 (gdV rfl rfl (iw32 _ (List.mem_of_getElem? (i := 7) rfl)) (iw32 _ (List.mem_of_getElem? (i := 8) rfl)) (iw32 _ (List.mem_of_getElem? (i := 9) rfl)) (iw2 _ (List.mem_of_getElem? (i := 12) rfl)) (iw32 _ (List.mem_of_getElem? (i := 10) rfl))) rfl ⟨rfl, rfl⟩ (by decide +kernel) ⟨by decide, by decide⟩ (by decide) rfl rfl dX4_read_106 rfl rfl (Nat.le_of_ble_eq_true rfl) ?_
      refine ⟨_, S, P, V, m, ((0 + 1) + 1), rfl, ⟨th11, by rw [(by rw [eh11]; rfl : h11 35 3 = h9 35 3), (congrFun (eh9.1 35 (by decide)) 3 : h9 35 3 = h8 35 3), (congrFun (eh8.1 35 (by decide)) 3 : h8 35 3 = h5 35 3), (by rw [eh5]; rfl : h5 35 3 = 1), (by rw [eh11]; rfl : h11 36 = h9 36), (eh9.1 36 (by decide) : h9 36 = h8 36), (eh8.1 36 (by decide) : h8 36 = h5 36), (by rw [eh5]; rfl : h5 36 = h2 36), (by rw [eh2]; rfl : h2 36 = hi 36)]; exact ⟨by decide, hph, hV⟩, rfl⟩, fun v12 h13 eh13 => ?_⟩
      have frh13 : Fr [29, 35] hi h13 := (Fr.call frh11 eh13.1 (by decide))
      have ff29h13 : FF 29 [6, 7, 8] hi h13 := FF.call ff29h11 (eh13.2.1) (by decide)
      have ff35h13 : FF 35 [2, 3, 4] hi h13 := FF.call0 ff35h11 eh13.1 (by decide)
      rw [(by rw [eh11]; rfl : h11 35 3 = h9 35 3), (congrFun (eh9.1 35 (by decide)) 3 : h9 35 3 = h8 35 3), (congrFun (eh8.1 35 (by decide)) 3 : h8 35 3 = h5 35 3), (by rw [eh5]; rfl : h5 35 3 = 1)] at eh13
      rw [(by rw [eh11]; rfl : h11 36 = h9 36), (eh9.1 36 (by decide) : h9 36 = h8 36), (eh8.1 36 (by decide) : h8 36 = h5 36), (by rw [eh5]; rfl : h5 36 = h2 36), (by rw [eh2]; rfl : h2 36 = hi 36)] at eh13
      have eph13 := eh13.2.2
      replace eh13 := And.intro eh13.1 (And.intro eh13.2.1 trivial)
      obtain ⟨tbh13, eph13⟩ := eph13
      rcases eph13 with ⟨kh13, ph13, th13, hrh13⟩ | ⟨ch13, gh13, th13, gch13, geh13, gdh13, ⟨g27h13, g28h13⟩, hrh13⟩
      · have hra := hrh13
        refine z_pop (pc := 109) dX4_read_109 rfl ?_
        refine z_aload_n (pc := 110) (x := 36) dX4_read_110 rfl 0 rfl ?_
        refine z_getR (pc := 111) (pl := 35) (f := 0) (ci := 4) (C := RX4) (T := TX4) (N := 5) hu_X4 (by decide) rfl rfl (by decide) rfl (List.mem_cons_of_mem _ (iw4 _ (List.mem_of_getElem? (i := 19) rfl))) rfl dX4_read_111 ?_
        refine z_getstE (pc := 114) (i := 0) (z := 0) (by decide) rfl (List.mem_cons_of_mem _ (iw31 _ (List.mem_of_getElem? (i := 22) rfl))) dX4_read_114 ?_
        refine z_callV (pc := 117) (kc := kX6_expect) (n := 1) (pl := 29) (ci := 5) (C := RX6) (As := [AR (ec 0)]) (stk := []) ct_X6_expect_TF (gdV rfl rfl (iw32 _ (List.mem_of_getElem? (i := 2) rfl)) (iw24 _ (List.mem_of_getElem? (i := 12) rfl)) (iw24 _ (List.mem_of_getElem? (i := 13) rfl)) (iw2 _ (List.mem_of_getElem? (i := 4) rfl)) (iw24 _ (List.mem_of_getElem? (i := 14) rfl))) rfl ⟨rfl, rfl⟩ (by decide +kernel) ⟨by decide, by decide⟩ (by decide) rfl rfl dX4_read_117 rfl rfl (Nat.le_of_ble_eq_true rfl) ?_
        refine ⟨_, S, P, V, m, kh13, ph13, rfl, ⟨th13, by decide, by decide⟩, fun h14 eh14 => ?_⟩
        have frh14 : Fr [29, 35] hi h14 := (Fr.call frh13 eh14.1 (by decide))
        have ff29h14 : FF 29 [6, 7, 8] hi h14 := FF.call ff29h13 (eh14.2.1) (by decide)
        have ff35h14 : FF 35 [2, 3, 4] hi h14 := FF.call0 ff35h13 eh14.1 (by decide)
        have eph14 := eh14.2.2
        replace eh14 := And.intro eh14.1 (And.intro eh14.2.1 trivial)
        have th14 := eph14
        refine z_vret (pc := 120) rfl dX4_read_120 ?_
        exact hQ h14 ⟨frh14, ff29h14, ff35h14, by first | (exfalso; omega) | exact Or.inl ⟨_, _, th14, qF_0 (by omega)⟩ | exact Or.inl ⟨_, _, th14, qF_1 (by omega) (by omega)⟩ | exact Or.inl ⟨_, _, th14, (qF_2 (by omega) (by omega) (ohF_1 (by omega)).symm).trans hra⟩ | exact Or.inl ⟨_, _, th14, ((qF_2 (by omega) (by omega) (ohF_1 (by omega)).symm).trans hra).trans (r_fin z27 z28 (by omega))⟩ | exact Or.inr ⟨_, th14, ((qF_2 (by omega) (by omega) (ohF_1 (by omega)).symm).trans hra).trans (r_end (by omega)), by rw [ohF_1 (by omega)]; exact gda, by omega, by rw [(by rw [(congrFun (eh14.1 35 (by decide)) 2 : h14 35 2 = h13 35 2), (congrFun (eh13.1 35 (by decide)) 2 : h13 35 2 = h11 35 2), (by rw [eh11]; rfl : h11 35 2 = h9 35 2), (congrFun (eh9.1 35 (by decide)) 2 : h9 35 2 = h8 35 2), (congrFun (eh8.1 35 (by decide)) 2 : h8 35 2 = h5 35 2), (by rw [eh5]; rfl : h5 35 2 = h2 35 2), (by rw [eh2]; rfl : h2 35 2 = v1)] : h14 35 2 = v1)]; omega, by rw [(by rw [(congrFun (eh14.1 35 (by decide)) 3 : h14 35 3 = h13 35 3), (congrFun (eh13.1 35 (by decide)) 3 : h13 35 3 = h11 35 3), (by rw [eh11]; rfl : h11 35 3 = h9 35 3), (congrFun (eh9.1 35 (by decide)) 3 : h9 35 3 = h8 35 3), (congrFun (eh8.1 35 (by decide)) 3 : h8 35 3 = h5 35 3), (by rw [eh5]; rfl : h5 35 3 = 1)] : h14 35 3 = 1), ohF_1 (by omega)], by rw [(by rw [(congrFun (eh14.1 35 (by decide)) 4 : h14 35 4 = h13 35 4), (congrFun (eh13.1 35 (by decide)) 4 : h13 35 4 = h11 35 4), (by rw [eh11]; rfl : h11 35 4 = v10)] : h14 35 4 = v10)]; omega⟩ | exact Or.inl ⟨_, _, th14, (qF_2 (by omega) (by omega) (ohF_0 (by omega)).symm).trans hra⟩ | exact Or.inl ⟨_, _, th14, ((qF_2 (by omega) (by omega) (ohF_0 (by omega)).symm).trans hra).trans (r_fin z27 z28 (by omega))⟩ | exact Or.inr ⟨_, th14, ((qF_2 (by omega) (by omega) (ohF_0 (by omega)).symm).trans hra).trans (r_end (by omega)), by rw [ohF_0 (by omega)]; exact gda, by omega, by rw [(by rw [(congrFun (eh14.1 35 (by decide)) 2 : h14 35 2 = h13 35 2), (congrFun (eh13.1 35 (by decide)) 2 : h13 35 2 = h11 35 2), (by rw [eh11]; rfl : h11 35 2 = h9 35 2), (congrFun (eh9.1 35 (by decide)) 2 : h9 35 2 = h8 35 2), (congrFun (eh8.1 35 (by decide)) 2 : h8 35 2 = h5 35 2), (by rw [eh5]; rfl : h5 35 2 = h2 35 2), (by rw [eh2]; rfl : h2 35 2 = v1)] : h14 35 2 = v1)]; omega, by rw [(by rw [(congrFun (eh14.1 35 (by decide)) 3 : h14 35 3 = h13 35 3), (congrFun (eh13.1 35 (by decide)) 3 : h13 35 3 = h11 35 3), (by rw [eh11]; rfl : h11 35 3 = h9 35 3), (congrFun (eh9.1 35 (by decide)) 3 : h9 35 3 = h8 35 3), (congrFun (eh8.1 35 (by decide)) 3 : h8 35 3 = h5 35 3), (by rw [eh5]; rfl : h5 35 3 = 1)] : h14 35 3 = 1), ohF_0 (by omega)], by rw [(by rw [(congrFun (eh14.1 35 (by decide)) 4 : h14 35 4 = h13 35 4), (congrFun (eh13.1 35 (by decide)) 4 : h13 35 4 = h11 35 4), (by rw [eh11]; rfl : h11 35 4 = v10)] : h14 35 4 = v10)]; omega⟩⟩
      · have cmh13 := th13.2.1
        have hra := hrh13
        have gda := gdh13
        have z27 := g27h13
        have z28 := g28h13
        refine z_pop (pc := 109) dX4_read_109 rfl ?_
        refine z_aload_n (pc := 110) (x := 36) dX4_read_110 rfl 0 rfl ?_
        refine z_getR (pc := 111) (pl := 35) (f := 0) (ci := 4) (C := RX4) (T := TX4) (N := 5) hu_X4 (by decide) rfl rfl (by decide) rfl (List.mem_cons_of_mem _ (iw4 _ (List.mem_of_getElem? (i := 19) rfl))) rfl dX4_read_111 ?_
        refine z_getstE (pc := 114) (i := 0) (z := 0) (by decide) rfl (List.mem_cons_of_mem _ (iw31 _ (List.mem_of_getElem? (i := 22) rfl))) dX4_read_114 ?_
        refine z_callV (pc := 117) (kc := kX6_expect) (n := 1) (pl := 29) (ci := 5) (C := RX6) (As := [AR (ec 0)]) (stk := []) ct_X6_expect_0 (gdV rfl rfl (iw32 _ (List.mem_of_getElem? (i := 2) rfl)) (iw24 _ (List.mem_of_getElem? (i := 12) rfl)) (iw24 _ (List.mem_of_getElem? (i := 13) rfl)) (iw2 _ (List.mem_of_getElem? (i := 4) rfl)) (iw24 _ (List.mem_of_getElem? (i := 14) rfl))) rfl ⟨rfl, rfl⟩ (by decide +kernel) ⟨by decide, by decide⟩ (by decide) rfl rfl dX4_read_117 rfl rfl (Nat.le_of_ble_eq_true rfl) ?_
        refine ⟨_, S, P, V, m, ch13, rfl, ⟨th13, rfl⟩, fun h15 eh15 => ?_⟩
        have frh15 : Fr [29, 35] hi h15 := (Fr.call frh13 eh15.1 (by decide))
        have ff29h15 : FF 29 [6, 7, 8] hi h15 := FF.call ff29h13 (eh15.2.1) (by decide)
        have ff35h15 : FF 35 [2, 3, 4] hi h15 := FF.call0 ff35h13 eh15.1 (by decide)
        have eph15 := eh15.2.2
        replace eh15 := And.intro eh15.1 (And.intro eh15.2.1 trivial)
        rcases eph15 with ⟨sh15, th15⟩ | ⟨sh15, th15⟩
        · skip
          refine z_vret (pc := 120) rfl dX4_read_120 ?_
          exact hQ h15 ⟨frh15, ff29h15, ff35h15, by first | (exfalso; omega) | exact Or.inl ⟨_, _, th15, qF_0 (by omega)⟩ | exact Or.inl ⟨_, _, th15, qF_1 (by omega) (by omega)⟩ | exact Or.inl ⟨_, _, th15, (qF_2 (by omega) (by omega) (ohF_1 (by omega)).symm).trans hra⟩ | exact Or.inl ⟨_, _, th15, ((qF_2 (by omega) (by omega) (ohF_1 (by omega)).symm).trans hra).trans (r_fin z27 z28 (by omega))⟩ | exact Or.inr ⟨_, th15, ((qF_2 (by omega) (by omega) (ohF_1 (by omega)).symm).trans hra).trans (r_end (by omega)), by rw [ohF_1 (by omega)]; exact gda, by omega, by rw [(by rw [(congrFun (eh15.1 35 (by decide)) 2 : h15 35 2 = h13 35 2), (congrFun (eh13.1 35 (by decide)) 2 : h13 35 2 = h11 35 2), (by rw [eh11]; rfl : h11 35 2 = h9 35 2), (congrFun (eh9.1 35 (by decide)) 2 : h9 35 2 = h8 35 2), (congrFun (eh8.1 35 (by decide)) 2 : h8 35 2 = h5 35 2), (by rw [eh5]; rfl : h5 35 2 = h2 35 2), (by rw [eh2]; rfl : h2 35 2 = v1)] : h15 35 2 = v1)]; omega, by rw [(by rw [(congrFun (eh15.1 35 (by decide)) 3 : h15 35 3 = h13 35 3), (congrFun (eh13.1 35 (by decide)) 3 : h13 35 3 = h11 35 3), (by rw [eh11]; rfl : h11 35 3 = h9 35 3), (congrFun (eh9.1 35 (by decide)) 3 : h9 35 3 = h8 35 3), (congrFun (eh8.1 35 (by decide)) 3 : h8 35 3 = h5 35 3), (by rw [eh5]; rfl : h5 35 3 = 1)] : h15 35 3 = 1), ohF_1 (by omega)], by rw [(by rw [(congrFun (eh15.1 35 (by decide)) 4 : h15 35 4 = h13 35 4), (congrFun (eh13.1 35 (by decide)) 4 : h13 35 4 = h11 35 4), (by rw [eh11]; rfl : h11 35 4 = v10)] : h15 35 4 = v10)]; omega⟩ | exact Or.inl ⟨_, _, th15, (qF_2 (by omega) (by omega) (ohF_0 (by omega)).symm).trans hra⟩ | exact Or.inl ⟨_, _, th15, ((qF_2 (by omega) (by omega) (ohF_0 (by omega)).symm).trans hra).trans (r_fin z27 z28 (by omega))⟩ | exact Or.inr ⟨_, th15, ((qF_2 (by omega) (by omega) (ohF_0 (by omega)).symm).trans hra).trans (r_end (by omega)), by rw [ohF_0 (by omega)]; exact gda, by omega, by rw [(by rw [(congrFun (eh15.1 35 (by decide)) 2 : h15 35 2 = h13 35 2), (congrFun (eh13.1 35 (by decide)) 2 : h13 35 2 = h11 35 2), (by rw [eh11]; rfl : h11 35 2 = h9 35 2), (congrFun (eh9.1 35 (by decide)) 2 : h9 35 2 = h8 35 2), (congrFun (eh8.1 35 (by decide)) 2 : h8 35 2 = h5 35 2), (by rw [eh5]; rfl : h5 35 2 = h2 35 2), (by rw [eh2]; rfl : h2 35 2 = v1)] : h15 35 2 = v1)]; omega, by rw [(by rw [(congrFun (eh15.1 35 (by decide)) 3 : h15 35 3 = h13 35 3), (congrFun (eh13.1 35 (by decide)) 3 : h13 35 3 = h11 35 3), (by rw [eh11]; rfl : h11 35 3 = h9 35 3), (congrFun (eh9.1 35 (by decide)) 3 : h9 35 3 = h8 35 3), (congrFun (eh8.1 35 (by decide)) 3 : h8 35 3 = h5 35 3), (by rw [eh5]; rfl : h5 35 3 = 1)] : h15 35 3 = 1), ohF_0 (by omega)], by rw [(by rw [(congrFun (eh15.1 35 (by decide)) 4 : h15 35 4 = h13 35 4), (congrFun (eh13.1 35 (by decide)) 4 : h13 35 4 = h11 35 4), (by rw [eh11]; rfl : h11 35 4 = v10)] : h15 35 4 = v10)]; omega⟩⟩
        · skip
          refine z_vret (pc := 120) rfl dX4_read_120 ?_
          exact hQ h15 ⟨frh15, ff29h15, ff35h15, by first | (exfalso; omega) | exact Or.inl ⟨_, _, th15, qF_0 (by omega)⟩ | exact Or.inl ⟨_, _, th15, qF_1 (by omega) (by omega)⟩ | exact Or.inl ⟨_, _, th15, (qF_2 (by omega) (by omega) (ohF_1 (by omega)).symm).trans hra⟩ | exact Or.inl ⟨_, _, th15, ((qF_2 (by omega) (by omega) (ohF_1 (by omega)).symm).trans hra).trans (r_fin z27 z28 (by omega))⟩ | exact Or.inr ⟨_, th15, ((qF_2 (by omega) (by omega) (ohF_1 (by omega)).symm).trans hra).trans (r_end (by omega)), by rw [ohF_1 (by omega)]; exact gda, by omega, by rw [(by rw [(congrFun (eh15.1 35 (by decide)) 2 : h15 35 2 = h13 35 2), (congrFun (eh13.1 35 (by decide)) 2 : h13 35 2 = h11 35 2), (by rw [eh11]; rfl : h11 35 2 = h9 35 2), (congrFun (eh9.1 35 (by decide)) 2 : h9 35 2 = h8 35 2), (congrFun (eh8.1 35 (by decide)) 2 : h8 35 2 = h5 35 2), (by rw [eh5]; rfl : h5 35 2 = h2 35 2), (by rw [eh2]; rfl : h2 35 2 = v1)] : h15 35 2 = v1)]; omega, by rw [(by rw [(congrFun (eh15.1 35 (by decide)) 3 : h15 35 3 = h13 35 3), (congrFun (eh13.1 35 (by decide)) 3 : h13 35 3 = h11 35 3), (by rw [eh11]; rfl : h11 35 3 = h9 35 3), (congrFun (eh9.1 35 (by decide)) 3 : h9 35 3 = h8 35 3), (congrFun (eh8.1 35 (by decide)) 3 : h8 35 3 = h5 35 3), (by rw [eh5]; rfl : h5 35 3 = 1)] : h15 35 3 = 1), ohF_1 (by omega)], by rw [(by rw [(congrFun (eh15.1 35 (by decide)) 4 : h15 35 4 = h13 35 4), (congrFun (eh13.1 35 (by decide)) 4 : h13 35 4 = h11 35 4), (by rw [eh11]; rfl : h11 35 4 = v10)] : h15 35 4 = v10)]; omega⟩ | exact Or.inl ⟨_, _, th15, (qF_2 (by omega) (by omega) (ohF_0 (by omega)).symm).trans hra⟩ | exact Or.inl ⟨_, _, th15, ((qF_2 (by omega) (by omega) (ohF_0 (by omega)).symm).trans hra).trans (r_fin z27 z28 (by omega))⟩ | exact Or.inr ⟨_, th15, ((qF_2 (by omega) (by omega) (ohF_0 (by omega)).symm).trans hra).trans (r_end (by omega)), by rw [ohF_0 (by omega)]; exact gda, by omega, by rw [(by rw [(congrFun (eh15.1 35 (by decide)) 2 : h15 35 2 = h13 35 2), (congrFun (eh13.1 35 (by decide)) 2 : h13 35 2 = h11 35 2), (by rw [eh11]; rfl : h11 35 2 = h9 35 2), (congrFun (eh9.1 35 (by decide)) 2 : h9 35 2 = h8 35 2), (congrFun (eh8.1 35 (by decide)) 2 : h8 35 2 = h5 35 2), (by rw [eh5]; rfl : h5 35 2 = h2 35 2), (by rw [eh2]; rfl : h2 35 2 = v1)] : h15 35 2 = v1)]; omega, by rw [(by rw [(congrFun (eh15.1 35 (by decide)) 3 : h15 35 3 = h13 35 3), (congrFun (eh13.1 35 (by decide)) 3 : h13 35 3 = h11 35 3), (by rw [eh11]; rfl : h11 35 3 = h9 35 3), (congrFun (eh9.1 35 (by decide)) 3 : h9 35 3 = h8 35 3), (congrFun (eh8.1 35 (by decide)) 3 : h8 35 3 = h5 35 3), (by rw [eh5]; rfl : h5 35 3 = 1)] : h15 35 3 = 1), ohF_0 (by omega)], by rw [(by rw [(congrFun (eh15.1 35 (by decide)) 4 : h15 35 4 = h13 35 4), (congrFun (eh13.1 35 (by decide)) 4 : h13 35 4 = h11 35 4), (by rw [eh11]; rfl : h11 35 4 = v10)] : h15 35 4 = v10)]; omega⟩⟩
    · skip
      refine z_aload_n (pc := 93) (x := 36) dX4_read_93 rfl 0 rfl ?_
      refine z_aload_n (pc := 94) (x := 36) dX4_read_94 rfl 0 rfl ?_
      refine z_getR (pc := 95) (pl := 35) (f := 0) (ci := 4) (C := RX4) (T := TX4) (N := 5) hu_X4 (by decide) rfl rfl (by decide) rfl (List.mem_cons_of_mem _ (iw4 _ (List.mem_of_getElem? (i := 19) rfl))) rfl dX4_read_95 ?_
      refine z_callV (pc := 98) (kc := kX6_cursor) (n := 0) (pl := 29) (ci := 5) (C := RX6) (As := []) (stk := [AR 36]) ct_X6_cursor_TF (gdV rfl rfl (iw32 _ (List.mem_of_getElem? (i := 3) rfl)) (iw32 _ (List.mem_of_getElem? (i := 4) rfl)) (iw32 _ (List.mem_of_getElem? (i := 5) rfl)) (iw2 _ (List.mem_of_getElem? (i := 4) rfl)) (iw32 _ (List.mem_of_getElem? (i := 6) rfl))) rfl ⟨rfl, rfl⟩ (by decide +kernel) ⟨by decide, by decide⟩ (by decide) rfl rfl dX4_read_98 rfl rfl (Nat.le_of_ble_eq_true rfl) ?_
      refine ⟨S, P, V, m, 1, (P (0 + 1)), rfl, th9, fun v16 ev16 => ?_⟩
      refine z_putI (pc := 101) (pl := 35) (f := 4) (ci := 4) (C := RX4) (T := TX4) (N := 5) hu_X4 tyX4_ok nmX4 (by decide) rfl rfl (by decide) rfl (List.mem_cons_of_mem _ (iw4 _ (List.mem_of_getElem? (i := 18) rfl))) rfl rfl (ty := .int) (by decide +kernel) rfl rfl ⟨by omega, by omega⟩ dX4_read_101 (fun h17 eh17 => ?_)
      have frh17 : Fr [29, 35] hi h17 := (Fr.put frh9 eh17 (by decide))
      have ff29h17 : FF 29 [6, 7, 8] hi h17 := FF.oth ff29h9 eh17 (by decide)
      have ff35h17 : FF 35 [2, 3, 4] hi h17 := FF.put ff35h9 eh17 (by decide)
      have th17 : TF h17 S P V m 1 (P (0 + 1)) := TF.oth th9 eh17 (by decide)
      refine z_aload_n (pc := 104) (x := 36) dX4_read_104 rfl 0 rfl ?_
      refine z_iconst (pc := 105) (v := 0) dX4_read_105 rfl ?_
      refine z_callV (pc := 106) (kc := (kX4_condHolds 5)) (n := 1) (pl := 35) (ci := 4) (C := RX4) (As := [AI 0]) (stk := []) ct_X4_condHolds_TF (gdV rfl rfl (iw32 _ (List.mem_of_getElem? (i := 7) rfl)) (iw32 _ (List.mem_of_getElem? (i := 8) rfl)) (iw32 _ (List.mem_of_getElem? (i := 9) rfl)) (iw2 _ (List.mem_of_getElem? (i := 12) rfl)) (iw32 _ (List.mem_of_getElem? (i := 10) rfl))) rfl ⟨rfl, rfl⟩ (by decide +kernel) ⟨by decide, by decide⟩ (by decide) rfl rfl dX4_read_106 rfl rfl (Nat.le_of_ble_eq_true rfl) ?_
      refine ⟨_, S, P, V, m, 1, (P (0 + 1)), rfl, ⟨th17, trivial⟩, fun v18 h19 eh19 => ?_⟩
      have frh19 : Fr [29, 35] hi h19 := (Fr.call frh17 eh19.1 (by decide))
      have ff29h19 : FF 29 [6, 7, 8] hi h19 := FF.call ff29h17 (eh19.2.1) (by decide)
      have ff35h19 : FF 35 [2, 3, 4] hi h19 := FF.call0 ff35h17 eh19.1 (by decide)
      have eph19 := eh19.2.2
      replace eh19 := And.intro eh19.1 (And.intro eh19.2.1 trivial)
      obtain ⟨tbh19, th19⟩ := eph19
      refine z_pop (pc := 109) dX4_read_109 rfl ?_
      refine z_aload_n (pc := 110) (x := 36) dX4_read_110 rfl 0 rfl ?_
      refine z_getR (pc := 111) (pl := 35) (f := 0) (ci := 4) (C := RX4) (T := TX4) (N := 5) hu_X4 (by decide) rfl rfl (by decide) rfl (List.mem_cons_of_mem _ (iw4 _ (List.mem_of_getElem? (i := 19) rfl))) rfl dX4_read_111 ?_
      refine z_getstE (pc := 114) (i := 0) (z := 0) (by decide) rfl (List.mem_cons_of_mem _ (iw31 _ (List.mem_of_getElem? (i := 22) rfl))) dX4_read_114 ?_
      refine z_callV (pc := 117) (kc := kX6_expect) (n := 1) (pl := 29) (ci := 5) (C := RX6) (As := [AR (ec 0)]) (stk := []) ct_X6_expect_TF (gdV rfl rfl (iw32 _ (List.mem_of_getElem? (i := 2) rfl)) (iw24 _ (List.mem_of_getElem? (i := 12) rfl)) (iw24 _ (List.mem_of_getElem? (i := 13) rfl)) (iw2 _ (List.mem_of_getElem? (i := 4) rfl)) (iw24 _ (List.mem_of_getElem? (i := 14) rfl))) rfl ⟨rfl, rfl⟩ (by decide +kernel) ⟨by decide, by decide⟩ (by decide) rfl rfl dX4_read_117 rfl rfl (Nat.le_of_ble_eq_true rfl) ?_
      refine ⟨_, S, P, V, m, 1, (P (0 + 1)), rfl, ⟨th19, by decide, by decide⟩, fun h20 eh20 => ?_⟩
      have frh20 : Fr [29, 35] hi h20 := (Fr.call frh19 eh20.1 (by decide))
      have ff29h20 : FF 29 [6, 7, 8] hi h20 := FF.call ff29h19 (eh20.2.1) (by decide)
      have ff35h20 : FF 35 [2, 3, 4] hi h20 := FF.call0 ff35h19 eh20.1 (by decide)
      have eph20 := eh20.2.2
      replace eh20 := And.intro eh20.1 (And.intro eh20.2.1 trivial)
      have th20 := eph20
      refine z_vret (pc := 120) rfl dX4_read_120 ?_
      exact hQ h20 ⟨frh20, ff29h20, ff35h20, by first | (exfalso; omega) | exact Or.inl ⟨_, _, th20, qF_0 (by omega)⟩ | exact Or.inl ⟨_, _, th20, qF_1 (by omega) (by omega)⟩ | exact Or.inl ⟨_, _, th20, (qF_2 (by omega) (by omega) (ohF_1 (by omega)).symm).trans hra⟩ | exact Or.inl ⟨_, _, th20, ((qF_2 (by omega) (by omega) (ohF_1 (by omega)).symm).trans hra).trans (r_fin z27 z28 (by omega))⟩ | exact Or.inr ⟨_, th20, ((qF_2 (by omega) (by omega) (ohF_1 (by omega)).symm).trans hra).trans (r_end (by omega)), by rw [ohF_1 (by omega)]; exact gda, by omega, by rw [(by rw [(congrFun (eh20.1 35 (by decide)) 2 : h20 35 2 = h19 35 2), (congrFun (eh19.1 35 (by decide)) 2 : h19 35 2 = h17 35 2), (by rw [eh17]; rfl : h17 35 2 = h9 35 2), (congrFun (eh9.1 35 (by decide)) 2 : h9 35 2 = h8 35 2), (congrFun (eh8.1 35 (by decide)) 2 : h8 35 2 = h5 35 2), (by rw [eh5]; rfl : h5 35 2 = h2 35 2), (by rw [eh2]; rfl : h2 35 2 = v1)] : h20 35 2 = v1)]; omega, by rw [(by rw [(congrFun (eh20.1 35 (by decide)) 3 : h20 35 3 = h19 35 3), (congrFun (eh19.1 35 (by decide)) 3 : h19 35 3 = h17 35 3), (by rw [eh17]; rfl : h17 35 3 = h9 35 3), (congrFun (eh9.1 35 (by decide)) 3 : h9 35 3 = h8 35 3), (congrFun (eh8.1 35 (by decide)) 3 : h8 35 3 = h5 35 3), (by rw [eh5]; rfl : h5 35 3 = 1)] : h20 35 3 = 1), ohF_1 (by omega)], by rw [(by rw [(congrFun (eh20.1 35 (by decide)) 4 : h20 35 4 = h19 35 4), (congrFun (eh19.1 35 (by decide)) 4 : h19 35 4 = h17 35 4), (by rw [eh17]; rfl : h17 35 4 = v16)] : h20 35 4 = v16)]; omega⟩ | exact Or.inl ⟨_, _, th20, (qF_2 (by omega) (by omega) (ohF_0 (by omega)).symm).trans hra⟩ | exact Or.inl ⟨_, _, th20, ((qF_2 (by omega) (by omega) (ohF_0 (by omega)).symm).trans hra).trans (r_fin z27 z28 (by omega))⟩ | exact Or.inr ⟨_, th20, ((qF_2 (by omega) (by omega) (ohF_0 (by omega)).symm).trans hra).trans (r_end (by omega)), by rw [ohF_0 (by omega)]; exact gda, by omega, by rw [(by rw [(congrFun (eh20.1 35 (by decide)) 2 : h20 35 2 = h19 35 2), (congrFun (eh19.1 35 (by decide)) 2 : h19 35 2 = h17 35 2), (by rw [eh17]; rfl : h17 35 2 = h9 35 2), (congrFun (eh9.1 35 (by decide)) 2 : h9 35 2 = h8 35 2), (congrFun (eh8.1 35 (by decide)) 2 : h8 35 2 = h5 35 2), (by rw [eh5]; rfl : h5 35 2 = h2 35 2), (by rw [eh2]; rfl : h2 35 2 = v1)] : h20 35 2 = v1)]; omega, by rw [(by rw [(congrFun (eh20.1 35 (by decide)) 3 : h20 35 3 = h19 35 3), (congrFun (eh19.1 35 (by decide)) 3 : h19 35 3 = h17 35 3), (by rw [eh17]; rfl : h17 35 3 = h9 35 3), (congrFun (eh9.1 35 (by decide)) 3 : h9 35 3 = h8 35 3), (congrFun (eh8.1 35 (by decide)) 3 : h8 35 3 = h5 35 3), (by rw [eh5]; rfl : h5 35 3 = 1)] : h20 35 3 = 1), ohF_0 (by omega)], by rw [(by rw [(congrFun (eh20.1 35 (by decide)) 4 : h20 35 4 = h19 35 4), (congrFun (eh19.1 35 (by decide)) 4 : h19 35 4 = h17 35 4), (by rw [eh17]; rfl : h17 35 4 = v16)] : h20 35 4 = v16)]; omega⟩⟩
  · refine z_aload_n (pc := 22) (x := 36) dX4_read_22 rfl 0 rfl ?_
    refine z_getE (pc := 23) (pl := 35) (f := 2) (ci := 4) (C := RX4) (T := TX4) (N := 5) hu_X4 (by decide) rfl rfl (by decide) rfl (List.mem_cons_of_mem _ (iw4 _ (List.mem_of_getElem? (i := 16) rfl))) rfl dX4_read_23 (fun v21 ev21 => ?_)
    rw [(by rw [eh2]; rfl : h2 35 2 = v1)] at ev21
    refine z_getstE (pc := 26) (i := 25) (z := 25) (by decide) rfl (List.mem_cons_of_mem _ (iw31 _ (List.mem_of_getElem? (i := 19) rfl))) dX4_read_26 ?_
    refine z_acmp_ne (pc := 29) (tgt := 36) dX4_read_29 (by decide) (by omega) (by omega) (fun c22 => ?_) (fun c22 => ?_)
    · refine z_iconst (pc := 36) (v := 0) dX4_read_36 rfl ?_
      refine z_putI (pc := 37) (pl := 35) (f := 3) (ci := 4) (C := RX4) (T := TX4) (N := 5) hu_X4 tyX4_ok nmX4 (by decide) rfl rfl (by decide) rfl (List.mem_cons_of_mem _ (iw4 _ (List.mem_of_getElem? (i := 17) rfl))) rfl rfl (ty := .boolean) (by decide +kernel) rfl rfl ⟨by decide, by decide⟩ dX4_read_37 (fun h23 eh23 => ?_)
      have frh23 : Fr [29, 35] hi h23 := (Fr.put frh2 eh23 (by decide))
      have ff29h23 : FF 29 [6, 7, 8] hi h23 := FF.oth ff29h2 eh23 (by decide)
      have ff35h23 : FF 35 [2, 3, 4] hi h23 := FF.put ff35h2 eh23 (by decide)
      have th23 : TS h23 S P V m 0 := TS.oth th2 eh23 (by decide)
      refine z_aload_n (pc := 40) (x := 36) dX4_read_40 rfl 0 rfl ?_
      refine z_getI (pc := 41) (pl := 35) (f := 3) (ci := 4) (C := RX4) (T := TX4) (N := 5) hu_X4 (by decide) rfl rfl (by decide) rfl (List.mem_cons_of_mem _ (iw4 _ (List.mem_of_getElem? (i := 17) rfl))) rfl (by decide) dX4_read_41 (fun v24 ev24 rv24 => ?_)
      rw [(by rw [eh23]; rfl : h23 35 3 = 0)] at ev24
      obtain rfl : v24 = 0 := ev24
      refine z_if_ne (pc := 44) (tgt := 75) dX4_read_44 (by decide) ⟨by decide, by decide⟩ (fun q => absurd q (by decide)) (fun _ => ?_)
      refine z_aload_n (pc := 47) (x := 36) dX4_read_47 rfl 0 rfl ?_
      refine z_getE (pc := 48) (pl := 35) (f := 2) (ci := 4) (C := RX4) (T := TX4) (N := 5) hu_X4 (by decide) rfl rfl (by decide) rfl (List.mem_cons_of_mem _ (iw4 _ (List.mem_of_getElem? (i := 16) rfl))) rfl dX4_read_48 (fun v25 ev25 => ?_)
      rw [(by rw [eh23]; rfl : h23 35 2 = h2 35 2), (by rw [eh2]; rfl : h2 35 2 = v1)] at ev25
      refine z_getstE (pc := 51) (i := 23) (z := 23) (by decide) rfl (List.mem_cons_of_mem _ (iw4 _ (List.mem_of_getElem? (i := 15) rfl))) dX4_read_51 ?_
      refine z_acmp_eq (pc := 54) (tgt := 75) dX4_read_54 (by decide) (by omega) (by omega) (fun c26 => ?_) (fun c26 => ?_)
      · refine z_aload_n (pc := 75) (x := 36) dX4_read_75 rfl 0 rfl ?_
        refine z_getR (pc := 76) (pl := 35) (f := 0) (ci := 4) (C := RX4) (T := TX4) (N := 5) hu_X4 (by decide) rfl rfl (by decide) rfl (List.mem_cons_of_mem _ (iw4 _ (List.mem_of_getElem? (i := 19) rfl))) rfl dX4_read_76 ?_
        refine z_callV (pc := 79) (kc := kX6_pass) (n := 0) (pl := 29) (ci := 5) (C := RX6) (As := []) (stk := []) ct_X6_pass_TS (gdV rfl rfl (iw32 _ (List.mem_of_getElem? (i := 1) rfl)) (iw23 _ (List.mem_of_getElem? (i := 5) rfl)) (iw23 _ (List.mem_of_getElem? (i := 6) rfl)) (iw2 _ (List.mem_of_getElem? (i := 4) rfl)) (iw23 _ (List.mem_of_getElem? (i := 7) rfl))) rfl ⟨rfl, rfl⟩ (by decide +kernel) ⟨by decide, by decide⟩ (by decide) rfl rfl dX4_read_79 rfl rfl (Nat.le_of_ble_eq_true rfl) ?_
        refine ⟨S, P, V, m, 0, rfl, ⟨th23, by omega⟩, fun v27 h28 eh28 => ?_⟩
        have frh28 : Fr [29, 35] hi h28 := (Fr.call frh23 eh28.1 (by decide))
        have ff29h28 : FF 29 [6, 7, 8] hi h28 := FF.call ff29h23 (eh28.2.1) (by decide)
        have ff35h28 : FF 35 [2, 3, 4] hi h28 := FF.call0 ff35h23 eh28.1 (by decide)
        have eph28 := eh28.2.2
        replace eh28 := And.intro eh28.1 (And.intro eh28.2.1 trivial)
        obtain ⟨gh28, th28⟩ := eph28
        refine z_pop (pc := 82) dX4_read_82 rfl ?_
        refine z_aload_n (pc := 83) (x := 36) dX4_read_83 rfl 0 rfl ?_
        refine z_getR (pc := 84) (pl := 35) (f := 0) (ci := 4) (C := RX4) (T := TX4) (N := 5) hu_X4 (by decide) rfl rfl (by decide) rfl (List.mem_cons_of_mem _ (iw4 _ (List.mem_of_getElem? (i := 19) rfl))) rfl dX4_read_84 ?_
        refine z_getstE (pc := 87) (i := 26) (z := 26) (by decide) rfl (List.mem_cons_of_mem _ (iw31 _ (List.mem_of_getElem? (i := 21) rfl))) dX4_read_87 ?_
        refine z_callV (pc := 90) (kc := kX6_expect) (n := 1) (pl := 29) (ci := 5) (C := RX6) (As := [AR (ec 26)]) (stk := []) ct_X6_expect_TS (gdV rfl rfl (iw32 _ (List.mem_of_getElem? (i := 2) rfl)) (iw24 _ (List.mem_of_getElem? (i := 12) rfl)) (iw24 _ (List.mem_of_getElem? (i := 13) rfl)) (iw2 _ (List.mem_of_getElem? (i := 4) rfl)) (iw24 _ (List.mem_of_getElem? (i := 14) rfl))) rfl ⟨rfl, rfl⟩ (by decide +kernel) ⟨by decide, by decide⟩ (by decide) rfl rfl dX4_read_90 rfl rfl (Nat.le_of_ble_eq_true rfl) ?_
        refine ⟨_, S, P, V, m, (0 + 1), rfl, ⟨th28, by decide, by decide⟩, fun h29 eh29 => ?_⟩
        have frh29 : Fr [29, 35] hi h29 := (Fr.call frh28 eh29.1 (by decide))
        have ff29h29 : FF 29 [6, 7, 8] hi h29 := FF.call ff29h28 (eh29.2.1) (by decide)
        have ff35h29 : FF 35 [2, 3, 4] hi h29 := FF.call0 ff35h28 eh29.1 (by decide)
        have eph29 := eh29.2.2
        replace eh29 := And.intro eh29.1 (And.intro eh29.2.1 trivial)
        rcases eph29 with ⟨sh29, th29⟩ | ⟨sh29, th29⟩
        · skip
          refine z_aload_n (pc := 93) (x := 36) dX4_read_93 rfl 0 rfl ?_
          refine z_aload_n (pc := 94) (x := 36) dX4_read_94 rfl 0 rfl ?_
          refine z_getR (pc := 95) (pl := 35) (f := 0) (ci := 4) (C := RX4) (T := TX4) (N := 5) hu_X4 (by decide) rfl rfl (by decide) rfl (List.mem_cons_of_mem _ (iw4 _ (List.mem_of_getElem? (i := 19) rfl))) rfl dX4_read_95 ?_
          refine z_callV (pc := 98) (kc := kX6_cursor) (n := 0) (pl := 29) (ci := 5) (C := RX6) (As := []) (stk := [AR 36]) ct_X6_cursor_TS (gdV rfl rfl (iw32 _ (List.mem_of_getElem? (i := 3) rfl)) (iw32 _ (List.mem_of_getElem? (i := 4) rfl)) (iw32 _ (List.mem_of_getElem? (i := 5) rfl)) (iw2 _ (List.mem_of_getElem? (i := 4) rfl)) (iw32 _ (List.mem_of_getElem? (i := 6) rfl))) rfl ⟨rfl, rfl⟩ (by decide +kernel) ⟨by decide, by decide⟩ (by decide) rfl rfl dX4_read_98 rfl rfl (Nat.le_of_ble_eq_true rfl) ?_
          refine ⟨S, P, V, m, ((0 + 1) + 1), rfl, th29, fun v30 ev30 => ?_⟩
          refine z_putI (pc := 101) (pl := 35) (f := 4) (ci := 4) (C := RX4) (T := TX4) (N := 5) hu_X4 tyX4_ok nmX4 (by decide) rfl rfl (by decide) rfl (List.mem_cons_of_mem _ (iw4 _ (List.mem_of_getElem? (i := 18) rfl))) rfl rfl (ty := .int) (by decide +kernel) rfl rfl ⟨by omega, by omega⟩ dX4_read_101 (fun h31 eh31 => ?_)
          have frh31 : Fr [29, 35] hi h31 := (Fr.put frh29 eh31 (by decide))
          have ff29h31 : FF 29 [6, 7, 8] hi h31 := FF.oth ff29h29 eh31 (by decide)
          have ff35h31 : FF 35 [2, 3, 4] hi h31 := FF.put ff35h29 eh31 (by decide)
          have th31 : TS h31 S P V m ((0 + 1) + 1) := TS.oth th29 eh31 (by decide)
          refine z_aload_n (pc := 104) (x := 36) dX4_read_104 rfl 0 rfl ?_
          refine z_iconst (pc := 105) (v := 0) dX4_read_105 rfl ?_
          refine z_callV (pc := 106) (kc := (kX4_condHolds 5)) (n := 1) (pl := 35) (ci := 4) (C := RX4) (As := [AI 0]) (stk := []) ct_X4_condHolds_0 (gdV rfl rfl (iw32 _ (List.mem_of_getElem? (i := 7) rfl)) (iw32 _ (List.mem_of_getElem? (i := 8) rfl)) (iw32 _ (List.mem_of_getElem? (i := 9) rfl)) (iw2 _ (List.mem_of_getElem? (i := 12) rfl)) (iw32 _ (List.mem_of_getElem? (i := 10) rfl))) rfl ⟨rfl, rfl⟩ (by decide +kernel) ⟨by decide, by decide⟩ (by decide) rfl rfl dX4_read_106 rfl rfl (Nat.le_of_ble_eq_true rfl) ?_
          refine ⟨_, S, P, V, m, ((0 + 1) + 1), rfl, ⟨th31, by rw [(by rw [eh31]; rfl : h31 35 3 = h29 35 3), (congrFun (eh29.1 35 (by decide)) 3 : h29 35 3 = h28 35 3), (congrFun (eh28.1 35 (by decide)) 3 : h28 35 3 = h23 35 3), (by rw [eh23]; rfl : h23 35 3 = 0), (by rw [eh31]; rfl : h31 36 = h29 36), (eh29.1 36 (by decide) : h29 36 = h28 36), (eh28.1 36 (by decide) : h28 36 = h23 36), (by rw [eh23]; rfl : h23 36 = h2 36), (by rw [eh2]; rfl : h2 36 = hi 36)]; exact ⟨by decide, hph, hV⟩, rfl⟩, fun v32 h33 eh33 => ?_⟩
          have frh33 : Fr [29, 35] hi h33 := (Fr.call frh31 eh33.1 (by decide))
          have ff29h33 : FF 29 [6, 7, 8] hi h33 := FF.call ff29h31 (eh33.2.1) (by decide)
          have ff35h33 : FF 35 [2, 3, 4] hi h33 := FF.call0 ff35h31 eh33.1 (by decide)
          rw [(by rw [eh31]; rfl : h31 35 3 = h29 35 3), (congrFun (eh29.1 35 (by decide)) 3 : h29 35 3 = h28 35 3), (congrFun (eh28.1 35 (by decide)) 3 : h28 35 3 = h23 35 3), (by rw [eh23]; rfl : h23 35 3 = 0)] at eh33
          rw [(by rw [eh31]; rfl : h31 36 = h29 36), (eh29.1 36 (by decide) : h29 36 = h28 36), (eh28.1 36 (by decide) : h28 36 = h23 36), (by rw [eh23]; rfl : h23 36 = h2 36), (by rw [eh2]; rfl : h2 36 = hi 36)] at eh33
          have eph33 := eh33.2.2
          replace eh33 := And.intro eh33.1 (And.intro eh33.2.1 trivial)
          obtain ⟨tbh33, eph33⟩ := eph33
          rcases eph33 with ⟨kh33, ph33, th33, hrh33⟩ | ⟨ch33, gh33, th33, gch33, geh33, gdh33, ⟨g27h33, g28h33⟩, hrh33⟩
          · have hra := hrh33
            refine z_pop (pc := 109) dX4_read_109 rfl ?_
            refine z_aload_n (pc := 110) (x := 36) dX4_read_110 rfl 0 rfl ?_
            refine z_getR (pc := 111) (pl := 35) (f := 0) (ci := 4) (C := RX4) (T := TX4) (N := 5) hu_X4 (by decide) rfl rfl (by decide) rfl (List.mem_cons_of_mem _ (iw4 _ (List.mem_of_getElem? (i := 19) rfl))) rfl dX4_read_111 ?_
            refine z_getstE (pc := 114) (i := 0) (z := 0) (by decide) rfl (List.mem_cons_of_mem _ (iw31 _ (List.mem_of_getElem? (i := 22) rfl))) dX4_read_114 ?_
            refine z_callV (pc := 117) (kc := kX6_expect) (n := 1) (pl := 29) (ci := 5) (C := RX6) (As := [AR (ec 0)]) (stk := []) ct_X6_expect_TF (gdV rfl rfl (iw32 _ (List.mem_of_getElem? (i := 2) rfl)) (iw24 _ (List.mem_of_getElem? (i := 12) rfl)) (iw24 _ (List.mem_of_getElem? (i := 13) rfl)) (iw2 _ (List.mem_of_getElem? (i := 4) rfl)) (iw24 _ (List.mem_of_getElem? (i := 14) rfl))) rfl ⟨rfl, rfl⟩ (by decide +kernel) ⟨by decide, by decide⟩ (by decide) rfl rfl dX4_read_117 rfl rfl (Nat.le_of_ble_eq_true rfl) ?_
            refine ⟨_, S, P, V, m, kh33, ph33, rfl, ⟨th33, by decide, by decide⟩, fun h34 eh34 => ?_⟩
            have frh34 : Fr [29, 35] hi h34 := (Fr.call frh33 eh34.1 (by decide))
            have ff29h34 : FF 29 [6, 7, 8] hi h34 := FF.call ff29h33 (eh34.2.1) (by decide)
            have ff35h34 : FF 35 [2, 3, 4] hi h34 := FF.call0 ff35h33 eh34.1 (by decide)
            have eph34 := eh34.2.2
            replace eh34 := And.intro eh34.1 (And.intro eh34.2.1 trivial)
            have th34 := eph34
            refine z_vret (pc := 120) rfl dX4_read_120 ?_
            exact hQ h34 ⟨frh34, ff29h34, ff35h34, by first | (exfalso; omega) | exact Or.inl ⟨_, _, th34, qF_0 (by omega)⟩ | exact Or.inl ⟨_, _, th34, qF_1 (by omega) (by omega)⟩ | exact Or.inl ⟨_, _, th34, (qF_2 (by omega) (by omega) (ohF_1 (by omega)).symm).trans hra⟩ | exact Or.inl ⟨_, _, th34, ((qF_2 (by omega) (by omega) (ohF_1 (by omega)).symm).trans hra).trans (r_fin z27 z28 (by omega))⟩ | exact Or.inr ⟨_, th34, ((qF_2 (by omega) (by omega) (ohF_1 (by omega)).symm).trans hra).trans (r_end (by omega)), by rw [ohF_1 (by omega)]; exact gda, by omega, by rw [(by rw [(congrFun (eh34.1 35 (by decide)) 2 : h34 35 2 = h33 35 2), (congrFun (eh33.1 35 (by decide)) 2 : h33 35 2 = h31 35 2), (by rw [eh31]; rfl : h31 35 2 = h29 35 2), (congrFun (eh29.1 35 (by decide)) 2 : h29 35 2 = h28 35 2), (congrFun (eh28.1 35 (by decide)) 2 : h28 35 2 = h23 35 2), (by rw [eh23]; rfl : h23 35 2 = h2 35 2), (by rw [eh2]; rfl : h2 35 2 = v1)] : h34 35 2 = v1)]; omega, by rw [(by rw [(congrFun (eh34.1 35 (by decide)) 3 : h34 35 3 = h33 35 3), (congrFun (eh33.1 35 (by decide)) 3 : h33 35 3 = h31 35 3), (by rw [eh31]; rfl : h31 35 3 = h29 35 3), (congrFun (eh29.1 35 (by decide)) 3 : h29 35 3 = h28 35 3), (congrFun (eh28.1 35 (by decide)) 3 : h28 35 3 = h23 35 3), (by rw [eh23]; rfl : h23 35 3 = 0)] : h34 35 3 = 0), ohF_1 (by omega)], by rw [(by rw [(congrFun (eh34.1 35 (by decide)) 4 : h34 35 4 = h33 35 4), (congrFun (eh33.1 35 (by decide)) 4 : h33 35 4 = h31 35 4), (by rw [eh31]; rfl : h31 35 4 = v30)] : h34 35 4 = v30)]; omega⟩ | exact Or.inl ⟨_, _, th34, (qF_2 (by omega) (by omega) (ohF_0 (by omega)).symm).trans hra⟩ | exact Or.inl ⟨_, _, th34, ((qF_2 (by omega) (by omega) (ohF_0 (by omega)).symm).trans hra).trans (r_fin z27 z28 (by omega))⟩ | exact Or.inr ⟨_, th34, ((qF_2 (by omega) (by omega) (ohF_0 (by omega)).symm).trans hra).trans (r_end (by omega)), by rw [ohF_0 (by omega)]; exact gda, by omega, by rw [(by rw [(congrFun (eh34.1 35 (by decide)) 2 : h34 35 2 = h33 35 2), (congrFun (eh33.1 35 (by decide)) 2 : h33 35 2 = h31 35 2), (by rw [eh31]; rfl : h31 35 2 = h29 35 2), (congrFun (eh29.1 35 (by decide)) 2 : h29 35 2 = h28 35 2), (congrFun (eh28.1 35 (by decide)) 2 : h28 35 2 = h23 35 2), (by rw [eh23]; rfl : h23 35 2 = h2 35 2), (by rw [eh2]; rfl : h2 35 2 = v1)] : h34 35 2 = v1)]; omega, by rw [(by rw [(congrFun (eh34.1 35 (by decide)) 3 : h34 35 3 = h33 35 3), (congrFun (eh33.1 35 (by decide)) 3 : h33 35 3 = h31 35 3), (by rw [eh31]; rfl : h31 35 3 = h29 35 3), (congrFun (eh29.1 35 (by decide)) 3 : h29 35 3 = h28 35 3), (congrFun (eh28.1 35 (by decide)) 3 : h28 35 3 = h23 35 3), (by rw [eh23]; rfl : h23 35 3 = 0)] : h34 35 3 = 0), ohF_0 (by omega)], by rw [(by rw [(congrFun (eh34.1 35 (by decide)) 4 : h34 35 4 = h33 35 4), (congrFun (eh33.1 35 (by decide)) 4 : h33 35 4 = h31 35 4), (by rw [eh31]; rfl : h31 35 4 = v30)] : h34 35 4 = v30)]; omega⟩⟩
          · have cmh33 := th33.2.1
            have hra := hrh33
            have gda := gdh33
            have z27 := g27h33
            have z28 := g28h33
            refine z_pop (pc := 109) dX4_read_109 rfl ?_
            refine z_aload_n (pc := 110) (x := 36) dX4_read_110 rfl 0 rfl ?_
            refine z_getR (pc := 111) (pl := 35) (f := 0) (ci := 4) (C := RX4) (T := TX4) (N := 5) hu_X4 (by decide) rfl rfl (by decide) rfl (List.mem_cons_of_mem _ (iw4 _ (List.mem_of_getElem? (i := 19) rfl))) rfl dX4_read_111 ?_
            refine z_getstE (pc := 114) (i := 0) (z := 0) (by decide) rfl (List.mem_cons_of_mem _ (iw31 _ (List.mem_of_getElem? (i := 22) rfl))) dX4_read_114 ?_
            refine z_callV (pc := 117) (kc := kX6_expect) (n := 1) (pl := 29) (ci := 5) (C := RX6) (As := [AR (ec 0)]) (stk := []) ct_X6_expect_0 (gdV rfl rfl (iw32 _ (List.mem_of_getElem? (i := 2) rfl)) (iw24 _ (List.mem_of_getElem? (i := 12) rfl)) (iw24 _ (List.mem_of_getElem? (i := 13) rfl)) (iw2 _ (List.mem_of_getElem? (i := 4) rfl)) (iw24 _ (List.mem_of_getElem? (i := 14) rfl))) rfl ⟨rfl, rfl⟩ (by decide +kernel) ⟨by decide, by decide⟩ (by decide) rfl rfl dX4_read_117 rfl rfl (Nat.le_of_ble_eq_true rfl) ?_
            refine ⟨_, S, P, V, m, ch33, rfl, ⟨th33, rfl⟩, fun h35 eh35 => ?_⟩
            have frh35 : Fr [29, 35] hi h35 := (Fr.call frh33 eh35.1 (by decide))
            have ff29h35 : FF 29 [6, 7, 8] hi h35 := FF.call ff29h33 (eh35.2.1) (by decide)
            have ff35h35 : FF 35 [2, 3, 4] hi h35 := FF.call0 ff35h33 eh35.1 (by decide)
            have eph35 := eh35.2.2
            replace eh35 := And.intro eh35.1 (And.intro eh35.2.1 trivial)
            rcases eph35 with ⟨sh35, th35⟩ | ⟨sh35, th35⟩
            · skip
              refine z_vret (pc := 120) rfl dX4_read_120 ?_
              exact hQ h35 ⟨frh35, ff29h35, ff35h35, by first | (exfalso; omega) | exact Or.inl ⟨_, _, th35, qF_0 (by omega)⟩ | exact Or.inl ⟨_, _, th35, qF_1 (by omega) (by omega)⟩ | exact Or.inl ⟨_, _, th35, (qF_2 (by omega) (by omega) (ohF_1 (by omega)).symm).trans hra⟩ | exact Or.inl ⟨_, _, th35, ((qF_2 (by omega) (by omega) (ohF_1 (by omega)).symm).trans hra).trans (r_fin z27 z28 (by omega))⟩ | exact Or.inr ⟨_, th35, ((qF_2 (by omega) (by omega) (ohF_1 (by omega)).symm).trans hra).trans (r_end (by omega)), by rw [ohF_1 (by omega)]; exact gda, by omega, by rw [(by rw [(congrFun (eh35.1 35 (by decide)) 2 : h35 35 2 = h33 35 2), (congrFun (eh33.1 35 (by decide)) 2 : h33 35 2 = h31 35 2), (by rw [eh31]; rfl : h31 35 2 = h29 35 2), (congrFun (eh29.1 35 (by decide)) 2 : h29 35 2 = h28 35 2), (congrFun (eh28.1 35 (by decide)) 2 : h28 35 2 = h23 35 2), (by rw [eh23]; rfl : h23 35 2 = h2 35 2), (by rw [eh2]; rfl : h2 35 2 = v1)] : h35 35 2 = v1)]; omega, by rw [(by rw [(congrFun (eh35.1 35 (by decide)) 3 : h35 35 3 = h33 35 3), (congrFun (eh33.1 35 (by decide)) 3 : h33 35 3 = h31 35 3), (by rw [eh31]; rfl : h31 35 3 = h29 35 3), (congrFun (eh29.1 35 (by decide)) 3 : h29 35 3 = h28 35 3), (congrFun (eh28.1 35 (by decide)) 3 : h28 35 3 = h23 35 3), (by rw [eh23]; rfl : h23 35 3 = 0)] : h35 35 3 = 0), ohF_1 (by omega)], by rw [(by rw [(congrFun (eh35.1 35 (by decide)) 4 : h35 35 4 = h33 35 4), (congrFun (eh33.1 35 (by decide)) 4 : h33 35 4 = h31 35 4), (by rw [eh31]; rfl : h31 35 4 = v30)] : h35 35 4 = v30)]; omega⟩ | exact Or.inl ⟨_, _, th35, (qF_2 (by omega) (by omega) (ohF_0 (by omega)).symm).trans hra⟩ | exact Or.inl ⟨_, _, th35, ((qF_2 (by omega) (by omega) (ohF_0 (by omega)).symm).trans hra).trans (r_fin z27 z28 (by omega))⟩ | exact Or.inr ⟨_, th35, ((qF_2 (by omega) (by omega) (ohF_0 (by omega)).symm).trans hra).trans (r_end (by omega)), by rw [ohF_0 (by omega)]; exact gda, by omega, by rw [(by rw [(congrFun (eh35.1 35 (by decide)) 2 : h35 35 2 = h33 35 2), (congrFun (eh33.1 35 (by decide)) 2 : h33 35 2 = h31 35 2), (by rw [eh31]; rfl : h31 35 2 = h29 35 2), (congrFun (eh29.1 35 (by decide)) 2 : h29 35 2 = h28 35 2), (congrFun (eh28.1 35 (by decide)) 2 : h28 35 2 = h23 35 2), (by rw [eh23]; rfl : h23 35 2 = h2 35 2), (by rw [eh2]; rfl : h2 35 2 = v1)] : h35 35 2 = v1)]; omega, by rw [(by rw [(congrFun (eh35.1 35 (by decide)) 3 : h35 35 3 = h33 35 3), (congrFun (eh33.1 35 (by decide)) 3 : h33 35 3 = h31 35 3), (by rw [eh31]; rfl : h31 35 3 = h29 35 3), (congrFun (eh29.1 35 (by decide)) 3 : h29 35 3 = h28 35 3), (congrFun (eh28.1 35 (by decide)) 3 : h28 35 3 = h23 35 3), (by rw [eh23]; rfl : h23 35 3 = 0)] : h35 35 3 = 0), ohF_0 (by omega)], by rw [(by rw [(congrFun (eh35.1 35 (by decide)) 4 : h35 35 4 = h33 35 4), (congrFun (eh33.1 35 (by decide)) 4 : h33 35 4 = h31 35 4), (by rw [eh31]; rfl : h31 35 4 = v30)] : h35 35 4 = v30)]; omega⟩⟩
            · skip
              refine z_vret (pc := 120) rfl dX4_read_120 ?_
              exact hQ h35 ⟨frh35, ff29h35, ff35h35, by first | (exfalso; omega) | exact Or.inl ⟨_, _, th35, qF_0 (by omega)⟩ | exact Or.inl ⟨_, _, th35, qF_1 (by omega) (by omega)⟩ | exact Or.inl ⟨_, _, th35, (qF_2 (by omega) (by omega) (ohF_1 (by omega)).symm).trans hra⟩ | exact Or.inl ⟨_, _, th35, ((qF_2 (by omega) (by omega) (ohF_1 (by omega)).symm).trans hra).trans (r_fin z27 z28 (by omega))⟩ | exact Or.inr ⟨_, th35, ((qF_2 (by omega) (by omega) (ohF_1 (by omega)).symm).trans hra).trans (r_end (by omega)), by rw [ohF_1 (by omega)]; exact gda, by omega, by rw [(by rw [(congrFun (eh35.1 35 (by decide)) 2 : h35 35 2 = h33 35 2), (congrFun (eh33.1 35 (by decide)) 2 : h33 35 2 = h31 35 2), (by rw [eh31]; rfl : h31 35 2 = h29 35 2), (congrFun (eh29.1 35 (by decide)) 2 : h29 35 2 = h28 35 2), (congrFun (eh28.1 35 (by decide)) 2 : h28 35 2 = h23 35 2), (by rw [eh23]; rfl : h23 35 2 = h2 35 2), (by rw [eh2]; rfl : h2 35 2 = v1)] : h35 35 2 = v1)]; omega, by rw [(by rw [(congrFun (eh35.1 35 (by decide)) 3 : h35 35 3 = h33 35 3), (congrFun (eh33.1 35 (by decide)) 3 : h33 35 3 = h31 35 3), (by rw [eh31]; rfl : h31 35 3 = h29 35 3), (congrFun (eh29.1 35 (by decide)) 3 : h29 35 3 = h28 35 3), (congrFun (eh28.1 35 (by decide)) 3 : h28 35 3 = h23 35 3), (by rw [eh23]; rfl : h23 35 3 = 0)] : h35 35 3 = 0), ohF_1 (by omega)], by rw [(by rw [(congrFun (eh35.1 35 (by decide)) 4 : h35 35 4 = h33 35 4), (congrFun (eh33.1 35 (by decide)) 4 : h33 35 4 = h31 35 4), (by rw [eh31]; rfl : h31 35 4 = v30)] : h35 35 4 = v30)]; omega⟩ | exact Or.inl ⟨_, _, th35, (qF_2 (by omega) (by omega) (ohF_0 (by omega)).symm).trans hra⟩ | exact Or.inl ⟨_, _, th35, ((qF_2 (by omega) (by omega) (ohF_0 (by omega)).symm).trans hra).trans (r_fin z27 z28 (by omega))⟩ | exact Or.inr ⟨_, th35, ((qF_2 (by omega) (by omega) (ohF_0 (by omega)).symm).trans hra).trans (r_end (by omega)), by rw [ohF_0 (by omega)]; exact gda, by omega, by rw [(by rw [(congrFun (eh35.1 35 (by decide)) 2 : h35 35 2 = h33 35 2), (congrFun (eh33.1 35 (by decide)) 2 : h33 35 2 = h31 35 2), (by rw [eh31]; rfl : h31 35 2 = h29 35 2), (congrFun (eh29.1 35 (by decide)) 2 : h29 35 2 = h28 35 2), (congrFun (eh28.1 35 (by decide)) 2 : h28 35 2 = h23 35 2), (by rw [eh23]; rfl : h23 35 2 = h2 35 2), (by rw [eh2]; rfl : h2 35 2 = v1)] : h35 35 2 = v1)]; omega, by rw [(by rw [(congrFun (eh35.1 35 (by decide)) 3 : h35 35 3 = h33 35 3), (congrFun (eh33.1 35 (by decide)) 3 : h33 35 3 = h31 35 3), (by rw [eh31]; rfl : h31 35 3 = h29 35 3), (congrFun (eh29.1 35 (by decide)) 3 : h29 35 3 = h28 35 3), (congrFun (eh28.1 35 (by decide)) 3 : h28 35 3 = h23 35 3), (by rw [eh23]; rfl : h23 35 3 = 0)] : h35 35 3 = 0), ohF_0 (by omega)], by rw [(by rw [(congrFun (eh35.1 35 (by decide)) 4 : h35 35 4 = h33 35 4), (congrFun (eh33.1 35 (by decide)) 4 : h33 35 4 = h31 35 4), (by rw [eh31]; rfl : h31 35 4 = v30)] : h35 35 4 = v30)]; omega⟩⟩
        · skip
          refine z_aload_n (pc := 93) (x := 36) dX4_read_93 rfl 0 rfl ?_
          refine z_aload_n (pc := 94) (x := 36) dX4_read_94 rfl 0 rfl ?_
          refine z_getR (pc := 95) (pl := 35) (f := 0) (ci := 4) (C := RX4) (T := TX4) (N := 5) hu_X4 (by decide) rfl rfl (by decide) rfl (List.mem_cons_of_mem _ (iw4 _ (List.mem_of_getElem? (i := 19) rfl))) rfl dX4_read_95 ?_
          refine z_callV (pc := 98) (kc := kX6_cursor) (n := 0) (pl := 29) (ci := 5) (C := RX6) (As := []) (stk := [AR 36]) ct_X6_cursor_TF (gdV rfl rfl (iw32 _ (List.mem_of_getElem? (i := 3) rfl)) (iw32 _ (List.mem_of_getElem? (i := 4) rfl)) (iw32 _ (List.mem_of_getElem? (i := 5) rfl)) (iw2 _ (List.mem_of_getElem? (i := 4) rfl)) (iw32 _ (List.mem_of_getElem? (i := 6) rfl))) rfl ⟨rfl, rfl⟩ (by decide +kernel) ⟨by decide, by decide⟩ (by decide) rfl rfl dX4_read_98 rfl rfl (Nat.le_of_ble_eq_true rfl) ?_
          refine ⟨S, P, V, m, 1, (P (0 + 1)), rfl, th29, fun v36 ev36 => ?_⟩
          refine z_putI (pc := 101) (pl := 35) (f := 4) (ci := 4) (C := RX4) (T := TX4) (N := 5) hu_X4 tyX4_ok nmX4 (by decide) rfl rfl (by decide) rfl (List.mem_cons_of_mem _ (iw4 _ (List.mem_of_getElem? (i := 18) rfl))) rfl rfl (ty := .int) (by decide +kernel) rfl rfl ⟨by omega, by omega⟩ dX4_read_101 (fun h37 eh37 => ?_)
          have frh37 : Fr [29, 35] hi h37 := (Fr.put frh29 eh37 (by decide))
          have ff29h37 : FF 29 [6, 7, 8] hi h37 := FF.oth ff29h29 eh37 (by decide)
          have ff35h37 : FF 35 [2, 3, 4] hi h37 := FF.put ff35h29 eh37 (by decide)
          have th37 : TF h37 S P V m 1 (P (0 + 1)) := TF.oth th29 eh37 (by decide)
          refine z_aload_n (pc := 104) (x := 36) dX4_read_104 rfl 0 rfl ?_
          refine z_iconst (pc := 105) (v := 0) dX4_read_105 rfl ?_
          refine z_callV (pc := 106) (kc := (kX4_condHolds 5)) (n := 1) (pl := 35) (ci := 4) (C := RX4) (As := [AI 0]) (stk := []) ct_X4_condHolds_TF (gdV rfl rfl (iw32 _ (List.mem_of_getElem? (i := 7) rfl)) (iw32 _ (List.mem_of_getElem? (i := 8) rfl)) (iw32 _ (List.mem_of_getElem? (i := 9) rfl)) (iw2 _ (List.mem_of_getElem? (i := 12) rfl)) (iw32 _ (List.mem_of_getElem? (i := 10) rfl))) rfl ⟨rfl, rfl⟩ (by decide +kernel) ⟨by decide, by decide⟩ (by decide) rfl rfl dX4_read_106 rfl rfl (Nat.le_of_ble_eq_true rfl) ?_
          refine ⟨_, S, P, V, m, 1, (P (0 + 1)), rfl, ⟨th37, trivial⟩, fun v38 h39 eh39 => ?_⟩
          have frh39 : Fr [29, 35] hi h39 := (Fr.call frh37 eh39.1 (by decide))
          have ff29h39 : FF 29 [6, 7, 8] hi h39 := FF.call ff29h37 (eh39.2.1) (by decide)
          have ff35h39 : FF 35 [2, 3, 4] hi h39 := FF.call0 ff35h37 eh39.1 (by decide)
          have eph39 := eh39.2.2
          replace eh39 := And.intro eh39.1 (And.intro eh39.2.1 trivial)
          obtain ⟨tbh39, th39⟩ := eph39
          refine z_pop (pc := 109) dX4_read_109 rfl ?_
          refine z_aload_n (pc := 110) (x := 36) dX4_read_110 rfl 0 rfl ?_
          refine z_getR (pc := 111) (pl := 35) (f := 0) (ci := 4) (C := RX4) (T := TX4) (N := 5) hu_X4 (by decide) rfl rfl (by decide) rfl (List.mem_cons_of_mem _ (iw4 _ (List.mem_of_getElem? (i := 19) rfl))) rfl dX4_read_111 ?_
          refine z_getstE (pc := 114) (i := 0) (z := 0) (by decide) rfl (List.mem_cons_of_mem _ (iw31 _ (List.mem_of_getElem? (i := 22) rfl))) dX4_read_114 ?_
          refine z_callV (pc := 117) (kc := kX6_expect) (n := 1) (pl := 29) (ci := 5) (C := RX6) (As := [AR (ec 0)]) (stk := []) ct_X6_expect_TF (gdV rfl rfl (iw32 _ (List.mem_of_getElem? (i := 2) rfl)) (iw24 _ (List.mem_of_getElem? (i := 12) rfl)) (iw24 _ (List.mem_of_getElem? (i := 13) rfl)) (iw2 _ (List.mem_of_getElem? (i := 4) rfl)) (iw24 _ (List.mem_of_getElem? (i := 14) rfl))) rfl ⟨rfl, rfl⟩ (by decide +kernel) ⟨by decide, by decide⟩ (by decide) rfl rfl dX4_read_117 rfl rfl (Nat.le_of_ble_eq_true rfl) ?_
          refine ⟨_, S, P, V, m, 1, (P (0 + 1)), rfl, ⟨th39, by decide, by decide⟩, fun h40 eh40 => ?_⟩
          have frh40 : Fr [29, 35] hi h40 := (Fr.call frh39 eh40.1 (by decide))
          have ff29h40 : FF 29 [6, 7, 8] hi h40 := FF.call ff29h39 (eh40.2.1) (by decide)
          have ff35h40 : FF 35 [2, 3, 4] hi h40 := FF.call0 ff35h39 eh40.1 (by decide)
          have eph40 := eh40.2.2
          replace eh40 := And.intro eh40.1 (And.intro eh40.2.1 trivial)
          have th40 := eph40
          refine z_vret (pc := 120) rfl dX4_read_120 ?_
          exact hQ h40 ⟨frh40, ff29h40, ff35h40, by first | (exfalso; omega) | exact Or.inl ⟨_, _, th40, qF_0 (by omega)⟩ | exact Or.inl ⟨_, _, th40, qF_1 (by omega) (by omega)⟩ | exact Or.inl ⟨_, _, th40, (qF_2 (by omega) (by omega) (ohF_1 (by omega)).symm).trans hra⟩ | exact Or.inl ⟨_, _, th40, ((qF_2 (by omega) (by omega) (ohF_1 (by omega)).symm).trans hra).trans (r_fin z27 z28 (by omega))⟩ | exact Or.inr ⟨_, th40, ((qF_2 (by omega) (by omega) (ohF_1 (by omega)).symm).trans hra).trans (r_end (by omega)), by rw [ohF_1 (by omega)]; exact gda, by omega, by rw [(by rw [(congrFun (eh40.1 35 (by decide)) 2 : h40 35 2 = h39 35 2), (congrFun (eh39.1 35 (by decide)) 2 : h39 35 2 = h37 35 2), (by rw [eh37]; rfl : h37 35 2 = h29 35 2), (congrFun (eh29.1 35 (by decide)) 2 : h29 35 2 = h28 35 2), (congrFun (eh28.1 35 (by decide)) 2 : h28 35 2 = h23 35 2), (by rw [eh23]; rfl : h23 35 2 = h2 35 2), (by rw [eh2]; rfl : h2 35 2 = v1)] : h40 35 2 = v1)]; omega, by rw [(by rw [(congrFun (eh40.1 35 (by decide)) 3 : h40 35 3 = h39 35 3), (congrFun (eh39.1 35 (by decide)) 3 : h39 35 3 = h37 35 3), (by rw [eh37]; rfl : h37 35 3 = h29 35 3), (congrFun (eh29.1 35 (by decide)) 3 : h29 35 3 = h28 35 3), (congrFun (eh28.1 35 (by decide)) 3 : h28 35 3 = h23 35 3), (by rw [eh23]; rfl : h23 35 3 = 0)] : h40 35 3 = 0), ohF_1 (by omega)], by rw [(by rw [(congrFun (eh40.1 35 (by decide)) 4 : h40 35 4 = h39 35 4), (congrFun (eh39.1 35 (by decide)) 4 : h39 35 4 = h37 35 4), (by rw [eh37]; rfl : h37 35 4 = v36)] : h40 35 4 = v36)]; omega⟩ | exact Or.inl ⟨_, _, th40, (qF_2 (by omega) (by omega) (ohF_0 (by omega)).symm).trans hra⟩ | exact Or.inl ⟨_, _, th40, ((qF_2 (by omega) (by omega) (ohF_0 (by omega)).symm).trans hra).trans (r_fin z27 z28 (by omega))⟩ | exact Or.inr ⟨_, th40, ((qF_2 (by omega) (by omega) (ohF_0 (by omega)).symm).trans hra).trans (r_end (by omega)), by rw [ohF_0 (by omega)]; exact gda, by omega, by rw [(by rw [(congrFun (eh40.1 35 (by decide)) 2 : h40 35 2 = h39 35 2), (congrFun (eh39.1 35 (by decide)) 2 : h39 35 2 = h37 35 2), (by rw [eh37]; rfl : h37 35 2 = h29 35 2), (congrFun (eh29.1 35 (by decide)) 2 : h29 35 2 = h28 35 2), (congrFun (eh28.1 35 (by decide)) 2 : h28 35 2 = h23 35 2), (by rw [eh23]; rfl : h23 35 2 = h2 35 2), (by rw [eh2]; rfl : h2 35 2 = v1)] : h40 35 2 = v1)]; omega, by rw [(by rw [(congrFun (eh40.1 35 (by decide)) 3 : h40 35 3 = h39 35 3), (congrFun (eh39.1 35 (by decide)) 3 : h39 35 3 = h37 35 3), (by rw [eh37]; rfl : h37 35 3 = h29 35 3), (congrFun (eh29.1 35 (by decide)) 3 : h29 35 3 = h28 35 3), (congrFun (eh28.1 35 (by decide)) 3 : h28 35 3 = h23 35 3), (by rw [eh23]; rfl : h23 35 3 = 0)] : h40 35 3 = 0), ohF_0 (by omega)], by rw [(by rw [(congrFun (eh40.1 35 (by decide)) 4 : h40 35 4 = h39 35 4), (congrFun (eh39.1 35 (by decide)) 4 : h39 35 4 = h37 35 4), (by rw [eh37]; rfl : h37 35 4 = v36)] : h40 35 4 = v36)]; omega⟩⟩
      · refine z_aload_n (pc := 57) (x := 36) dX4_read_57 rfl 0 rfl ?_
        refine z_getE (pc := 58) (pl := 35) (f := 2) (ci := 4) (C := RX4) (T := TX4) (N := 5) hu_X4 (by decide) rfl rfl (by decide) rfl (List.mem_cons_of_mem _ (iw4 _ (List.mem_of_getElem? (i := 16) rfl))) rfl dX4_read_58 (fun v41 ev41 => ?_)
        rw [(by rw [eh23]; rfl : h23 35 2 = h2 35 2), (by rw [eh2]; rfl : h2 35 2 = v1)] at ev41
        refine z_getstE (pc := 61) (i := 34) (z := 34) (by decide) rfl (List.mem_cons_of_mem _ (iw31 _ (List.mem_of_getElem? (i := 20) rfl))) dX4_read_61 ?_
        refine z_acmp_eq (pc := 64) (tgt := 75) dX4_read_64 (by decide) (by omega) (by omega) (fun c42 => ?_) (fun c42 => ?_)
        · refine z_aload_n (pc := 75) (x := 36) dX4_read_75 rfl 0 rfl ?_
          refine z_getR (pc := 76) (pl := 35) (f := 0) (ci := 4) (C := RX4) (T := TX4) (N := 5) hu_X4 (by decide) rfl rfl (by decide) rfl (List.mem_cons_of_mem _ (iw4 _ (List.mem_of_getElem? (i := 19) rfl))) rfl dX4_read_76 ?_
          refine z_callV (pc := 79) (kc := kX6_pass) (n := 0) (pl := 29) (ci := 5) (C := RX6) (As := []) (stk := []) ct_X6_pass_TS (gdV rfl rfl (iw32 _ (List.mem_of_getElem? (i := 1) rfl)) (iw23 _ (List.mem_of_getElem? (i := 5) rfl)) (iw23 _ (List.mem_of_getElem? (i := 6) rfl)) (iw2 _ (List.mem_of_getElem? (i := 4) rfl)) (iw23 _ (List.mem_of_getElem? (i := 7) rfl))) rfl ⟨rfl, rfl⟩ (by decide +kernel) ⟨by decide, by decide⟩ (by decide) rfl rfl dX4_read_79 rfl rfl (Nat.le_of_ble_eq_true rfl) ?_
          refine ⟨S, P, V, m, 0, rfl, ⟨th23, by omega⟩, fun v43 h44 eh44 => ?_⟩
          have frh44 : Fr [29, 35] hi h44 := (Fr.call frh23 eh44.1 (by decide))
          have ff29h44 : FF 29 [6, 7, 8] hi h44 := FF.call ff29h23 (eh44.2.1) (by decide)
          have ff35h44 : FF 35 [2, 3, 4] hi h44 := FF.call0 ff35h23 eh44.1 (by decide)
          have eph44 := eh44.2.2
          replace eh44 := And.intro eh44.1 (And.intro eh44.2.1 trivial)
          obtain ⟨gh44, th44⟩ := eph44
          refine z_pop (pc := 82) dX4_read_82 rfl ?_
          refine z_aload_n (pc := 83) (x := 36) dX4_read_83 rfl 0 rfl ?_
          refine z_getR (pc := 84) (pl := 35) (f := 0) (ci := 4) (C := RX4) (T := TX4) (N := 5) hu_X4 (by decide) rfl rfl (by decide) rfl (List.mem_cons_of_mem _ (iw4 _ (List.mem_of_getElem? (i := 19) rfl))) rfl dX4_read_84 ?_
          refine z_getstE (pc := 87) (i := 26) (z := 26) (by decide) rfl (List.mem_cons_of_mem _ (iw31 _ (List.mem_of_getElem? (i := 21) rfl))) dX4_read_87 ?_
          refine z_callV (pc := 90) (kc := kX6_expect) (n := 1) (pl := 29) (ci := 5) (C := RX6) (As := [AR (ec 26)]) (stk := []) ct_X6_expect_TS (gdV rfl rfl (iw32 _ (List.mem_of_getElem? (i := 2) rfl)) (iw24 _ (List.mem_of_getElem? (i := 12) rfl)) (iw24 _ (List.mem_of_getElem? (i := 13) rfl)) (iw2 _ (List.mem_of_getElem? (i := 4) rfl)) (iw24 _ (List.mem_of_getElem? (i := 14) rfl))) rfl ⟨rfl, rfl⟩ (by decide +kernel) ⟨by decide, by decide⟩ (by decide) rfl rfl dX4_read_90 rfl rfl (Nat.le_of_ble_eq_true rfl) ?_
          refine ⟨_, S, P, V, m, (0 + 1), rfl, ⟨th44, by decide, by decide⟩, fun h45 eh45 => ?_⟩
          have frh45 : Fr [29, 35] hi h45 := (Fr.call frh44 eh45.1 (by decide))
          have ff29h45 : FF 29 [6, 7, 8] hi h45 := FF.call ff29h44 (eh45.2.1) (by decide)
          have ff35h45 : FF 35 [2, 3, 4] hi h45 := FF.call0 ff35h44 eh45.1 (by decide)
          have eph45 := eh45.2.2
          replace eh45 := And.intro eh45.1 (And.intro eh45.2.1 trivial)
          rcases eph45 with ⟨sh45, th45⟩ | ⟨sh45, th45⟩
          · skip
            refine z_aload_n (pc := 93) (x := 36) dX4_read_93 rfl 0 rfl ?_
            refine z_aload_n (pc := 94) (x := 36) dX4_read_94 rfl 0 rfl ?_
            refine z_getR (pc := 95) (pl := 35) (f := 0) (ci := 4) (C := RX4) (T := TX4) (N := 5) hu_X4 (by decide) rfl rfl (by decide) rfl (List.mem_cons_of_mem _ (iw4 _ (List.mem_of_getElem? (i := 19) rfl))) rfl dX4_read_95 ?_
            refine z_callV (pc := 98) (kc := kX6_cursor) (n := 0) (pl := 29) (ci := 5) (C := RX6) (As := []) (stk := [AR 36]) ct_X6_cursor_TS (gdV rfl rfl (iw32 _ (List.mem_of_getElem? (i := 3) rfl)) (iw32 _ (List.mem_of_getElem? (i := 4) rfl)) (iw32 _ (List.mem_of_getElem? (i := 5) rfl)) (iw2 _ (List.mem_of_getElem? (i := 4) rfl)) (iw32 _ (List.mem_of_getElem? (i := 6) rfl))) rfl ⟨rfl, rfl⟩ (by decide +kernel) ⟨by decide, by decide⟩ (by decide) rfl rfl dX4_read_98 rfl rfl (Nat.le_of_ble_eq_true rfl) ?_
            refine ⟨S, P, V, m, ((0 + 1) + 1), rfl, th45, fun v46 ev46 => ?_⟩
            refine z_putI (pc := 101) (pl := 35) (f := 4) (ci := 4) (C := RX4) (T := TX4) (N := 5) hu_X4 tyX4_ok nmX4 (by decide) rfl rfl (by decide) rfl (List.mem_cons_of_mem _ (iw4 _ (List.mem_of_getElem? (i := 18) rfl))) rfl rfl (ty := .int) (by decide +kernel) rfl rfl ⟨by omega, by omega⟩ dX4_read_101 (fun h47 eh47 => ?_)
            have frh47 : Fr [29, 35] hi h47 := (Fr.put frh45 eh47 (by decide))
            have ff29h47 : FF 29 [6, 7, 8] hi h47 := FF.oth ff29h45 eh47 (by decide)
            have ff35h47 : FF 35 [2, 3, 4] hi h47 := FF.put ff35h45 eh47 (by decide)
            have th47 : TS h47 S P V m ((0 + 1) + 1) := TS.oth th45 eh47 (by decide)
            refine z_aload_n (pc := 104) (x := 36) dX4_read_104 rfl 0 rfl ?_
            refine z_iconst (pc := 105) (v := 0) dX4_read_105 rfl ?_
            refine z_callV (pc := 106) (kc := (kX4_condHolds 5)) (n := 1) (pl := 35) (ci := 4) (C := RX4) (As := [AI 0]) (stk := []) ct_X4_condHolds_0 (gdV rfl rfl (iw32 _ (List.mem_of_getElem? (i := 7) rfl)) (iw32 _ (List.mem_of_getElem? (i := 8) rfl)) (iw32 _ (List.mem_of_getElem? (i := 9) rfl)) (iw2 _ (List.mem_of_getElem? (i := 12) rfl)) (iw32 _ (List.mem_of_getElem? (i := 10) rfl))) rfl ⟨rfl, rfl⟩ (by decide +kernel) ⟨by decide, by decide⟩ (by decide) rfl rfl dX4_read_106 rfl rfl (Nat.le_of_ble_eq_true rfl) ?_
            refine ⟨_, S, P, V, m, ((0 + 1) + 1), rfl, ⟨th47, by rw [(by rw [eh47]; rfl : h47 35 3 = h45 35 3), (congrFun (eh45.1 35 (by decide)) 3 : h45 35 3 = h44 35 3), (congrFun (eh44.1 35 (by decide)) 3 : h44 35 3 = h23 35 3), (by rw [eh23]; rfl : h23 35 3 = 0), (by rw [eh47]; rfl : h47 36 = h45 36), (eh45.1 36 (by decide) : h45 36 = h44 36), (eh44.1 36 (by decide) : h44 36 = h23 36), (by rw [eh23]; rfl : h23 36 = h2 36), (by rw [eh2]; rfl : h2 36 = hi 36)]; exact ⟨by decide, hph, hV⟩, rfl⟩, fun v48 h49 eh49 => ?_⟩
            have frh49 : Fr [29, 35] hi h49 := (Fr.call frh47 eh49.1 (by decide))
            have ff29h49 : FF 29 [6, 7, 8] hi h49 := FF.call ff29h47 (eh49.2.1) (by decide)
            have ff35h49 : FF 35 [2, 3, 4] hi h49 := FF.call0 ff35h47 eh49.1 (by decide)
            rw [(by rw [eh47]; rfl : h47 35 3 = h45 35 3), (congrFun (eh45.1 35 (by decide)) 3 : h45 35 3 = h44 35 3), (congrFun (eh44.1 35 (by decide)) 3 : h44 35 3 = h23 35 3), (by rw [eh23]; rfl : h23 35 3 = 0)] at eh49
            rw [(by rw [eh47]; rfl : h47 36 = h45 36), (eh45.1 36 (by decide) : h45 36 = h44 36), (eh44.1 36 (by decide) : h44 36 = h23 36), (by rw [eh23]; rfl : h23 36 = h2 36), (by rw [eh2]; rfl : h2 36 = hi 36)] at eh49
            have eph49 := eh49.2.2
            replace eh49 := And.intro eh49.1 (And.intro eh49.2.1 trivial)
            obtain ⟨tbh49, eph49⟩ := eph49
            rcases eph49 with ⟨kh49, ph49, th49, hrh49⟩ | ⟨ch49, gh49, th49, gch49, geh49, gdh49, ⟨g27h49, g28h49⟩, hrh49⟩
            · have hra := hrh49
              refine z_pop (pc := 109) dX4_read_109 rfl ?_
              refine z_aload_n (pc := 110) (x := 36) dX4_read_110 rfl 0 rfl ?_
              refine z_getR (pc := 111) (pl := 35) (f := 0) (ci := 4) (C := RX4) (T := TX4) (N := 5) hu_X4 (by decide) rfl rfl (by decide) rfl (List.mem_cons_of_mem _ (iw4 _ (List.mem_of_getElem? (i := 19) rfl))) rfl dX4_read_111 ?_
              refine z_getstE (pc := 114) (i := 0) (z := 0) (by decide) rfl (List.mem_cons_of_mem _ (iw31 _ (List.mem_of_getElem? (i := 22) rfl))) dX4_read_114 ?_
              refine z_callV (pc := 117) (kc := kX6_expect) (n := 1) (pl := 29) (ci := 5) (C := RX6) (As := [AR (ec 0)]) (stk := []) ct_X6_expect_TF (gdV rfl rfl (iw32 _ (List.mem_of_getElem? (i := 2) rfl)) (iw24 _ (List.mem_of_getElem? (i := 12) rfl)) (iw24 _ (List.mem_of_getElem? (i := 13) rfl)) (iw2 _ (List.mem_of_getElem? (i := 4) rfl)) (iw24 _ (List.mem_of_getElem? (i := 14) rfl))) rfl ⟨rfl, rfl⟩ (by decide +kernel) ⟨by decide, by decide⟩ (by decide) rfl rfl dX4_read_117 rfl rfl (Nat.le_of_ble_eq_true rfl) ?_
              refine ⟨_, S, P, V, m, kh49, ph49, rfl, ⟨th49, by decide, by decide⟩, fun h50 eh50 => ?_⟩
              have frh50 : Fr [29, 35] hi h50 := (Fr.call frh49 eh50.1 (by decide))
              have ff29h50 : FF 29 [6, 7, 8] hi h50 := FF.call ff29h49 (eh50.2.1) (by decide)
              have ff35h50 : FF 35 [2, 3, 4] hi h50 := FF.call0 ff35h49 eh50.1 (by decide)
              have eph50 := eh50.2.2
              replace eh50 := And.intro eh50.1 (And.intro eh50.2.1 trivial)
              have th50 := eph50
              refine z_vret (pc := 120) rfl dX4_read_120 ?_
              exact hQ h50 ⟨frh50, ff29h50, ff35h50, by first | (exfalso; omega) | exact Or.inl ⟨_, _, th50, qF_0 (by omega)⟩ | exact Or.inl ⟨_, _, th50, qF_1 (by omega) (by omega)⟩ | exact Or.inl ⟨_, _, th50, (qF_2 (by omega) (by omega) (ohF_1 (by omega)).symm).trans hra⟩ | exact Or.inl ⟨_, _, th50, ((qF_2 (by omega) (by omega) (ohF_1 (by omega)).symm).trans hra).trans (r_fin z27 z28 (by omega))⟩ | exact Or.inr ⟨_, th50, ((qF_2 (by omega) (by omega) (ohF_1 (by omega)).symm).trans hra).trans (r_end (by omega)), by rw [ohF_1 (by omega)]; exact gda, by omega, by rw [(by rw [(congrFun (eh50.1 35 (by decide)) 2 : h50 35 2 = h49 35 2), (congrFun (eh49.1 35 (by decide)) 2 : h49 35 2 = h47 35 2), (by rw [eh47]; rfl : h47 35 2 = h45 35 2), (congrFun (eh45.1 35 (by decide)) 2 : h45 35 2 = h44 35 2), (congrFun (eh44.1 35 (by decide)) 2 : h44 35 2 = h23 35 2), (by rw [eh23]; rfl : h23 35 2 = h2 35 2), (by rw [eh2]; rfl : h2 35 2 = v1)] : h50 35 2 = v1)]; omega, by rw [(by rw [(congrFun (eh50.1 35 (by decide)) 3 : h50 35 3 = h49 35 3), (congrFun (eh49.1 35 (by decide)) 3 : h49 35 3 = h47 35 3), (by rw [eh47]; rfl : h47 35 3 = h45 35 3), (congrFun (eh45.1 35 (by decide)) 3 : h45 35 3 = h44 35 3), (congrFun (eh44.1 35 (by decide)) 3 : h44 35 3 = h23 35 3), (by rw [eh23]; rfl : h23 35 3 = 0)] : h50 35 3 = 0), ohF_1 (by omega)], by rw [(by rw [(congrFun (eh50.1 35 (by decide)) 4 : h50 35 4 = h49 35 4), (congrFun (eh49.1 35 (by decide)) 4 : h49 35 4 = h47 35 4), (by rw [eh47]; rfl : h47 35 4 = v46)] : h50 35 4 = v46)]; omega⟩ | exact Or.inl ⟨_, _, th50, (qF_2 (by omega) (by omega) (ohF_0 (by omega)).symm).trans hra⟩ | exact Or.inl ⟨_, _, th50, ((qF_2 (by omega) (by omega) (ohF_0 (by omega)).symm).trans hra).trans (r_fin z27 z28 (by omega))⟩ | exact Or.inr ⟨_, th50, ((qF_2 (by omega) (by omega) (ohF_0 (by omega)).symm).trans hra).trans (r_end (by omega)), by rw [ohF_0 (by omega)]; exact gda, by omega, by rw [(by rw [(congrFun (eh50.1 35 (by decide)) 2 : h50 35 2 = h49 35 2), (congrFun (eh49.1 35 (by decide)) 2 : h49 35 2 = h47 35 2), (by rw [eh47]; rfl : h47 35 2 = h45 35 2), (congrFun (eh45.1 35 (by decide)) 2 : h45 35 2 = h44 35 2), (congrFun (eh44.1 35 (by decide)) 2 : h44 35 2 = h23 35 2), (by rw [eh23]; rfl : h23 35 2 = h2 35 2), (by rw [eh2]; rfl : h2 35 2 = v1)] : h50 35 2 = v1)]; omega, by rw [(by rw [(congrFun (eh50.1 35 (by decide)) 3 : h50 35 3 = h49 35 3), (congrFun (eh49.1 35 (by decide)) 3 : h49 35 3 = h47 35 3), (by rw [eh47]; rfl : h47 35 3 = h45 35 3), (congrFun (eh45.1 35 (by decide)) 3 : h45 35 3 = h44 35 3), (congrFun (eh44.1 35 (by decide)) 3 : h44 35 3 = h23 35 3), (by rw [eh23]; rfl : h23 35 3 = 0)] : h50 35 3 = 0), ohF_0 (by omega)], by rw [(by rw [(congrFun (eh50.1 35 (by decide)) 4 : h50 35 4 = h49 35 4), (congrFun (eh49.1 35 (by decide)) 4 : h49 35 4 = h47 35 4), (by rw [eh47]; rfl : h47 35 4 = v46)] : h50 35 4 = v46)]; omega⟩⟩
            · have cmh49 := th49.2.1
              have hra := hrh49
              have gda := gdh49
              have z27 := g27h49
              have z28 := g28h49
              refine z_pop (pc := 109) dX4_read_109 rfl ?_
              refine z_aload_n (pc := 110) (x := 36) dX4_read_110 rfl 0 rfl ?_
              refine z_getR (pc := 111) (pl := 35) (f := 0) (ci := 4) (C := RX4) (T := TX4) (N := 5) hu_X4 (by decide) rfl rfl (by decide) rfl (List.mem_cons_of_mem _ (iw4 _ (List.mem_of_getElem? (i := 19) rfl))) rfl dX4_read_111 ?_
              refine z_getstE (pc := 114) (i := 0) (z := 0) (by decide) rfl (List.mem_cons_of_mem _ (iw31 _ (List.mem_of_getElem? (i := 22) rfl))) dX4_read_114 ?_
              refine z_callV (pc := 117) (kc := kX6_expect) (n := 1) (pl := 29) (ci := 5) (C := RX6) (As := [AR (ec 0)]) (stk := []) ct_X6_expect_0 (gdV rfl rfl (iw32 _ (List.mem_of_getElem? (i := 2) rfl)) (iw24 _ (List.mem_of_getElem? (i := 12) rfl)) (iw24 _ (List.mem_of_getElem? (i := 13) rfl)) (iw2 _ (List.mem_of_getElem? (i := 4) rfl)) (iw24 _ (List.mem_of_getElem? (i := 14) rfl))) rfl ⟨rfl, rfl⟩ (by decide +kernel) ⟨by decide, by decide⟩ (by decide) rfl rfl dX4_read_117 rfl rfl (Nat.le_of_ble_eq_true rfl) ?_
              refine ⟨_, S, P, V, m, ch49, rfl, ⟨th49, rfl⟩, fun h51 eh51 => ?_⟩
              have frh51 : Fr [29, 35] hi h51 := (Fr.call frh49 eh51.1 (by decide))
              have ff29h51 : FF 29 [6, 7, 8] hi h51 := FF.call ff29h49 (eh51.2.1) (by decide)
              have ff35h51 : FF 35 [2, 3, 4] hi h51 := FF.call0 ff35h49 eh51.1 (by decide)
              have eph51 := eh51.2.2
              replace eh51 := And.intro eh51.1 (And.intro eh51.2.1 trivial)
              rcases eph51 with ⟨sh51, th51⟩ | ⟨sh51, th51⟩
              · skip
                refine z_vret (pc := 120) rfl dX4_read_120 ?_
                exact hQ h51 ⟨frh51, ff29h51, ff35h51, by first | (exfalso; omega) | exact Or.inl ⟨_, _, th51, qF_0 (by omega)⟩ | exact Or.inl ⟨_, _, th51, qF_1 (by omega) (by omega)⟩ | exact Or.inl ⟨_, _, th51, (qF_2 (by omega) (by omega) (ohF_1 (by omega)).symm).trans hra⟩ | exact Or.inl ⟨_, _, th51, ((qF_2 (by omega) (by omega) (ohF_1 (by omega)).symm).trans hra).trans (r_fin z27 z28 (by omega))⟩ | exact Or.inr ⟨_, th51, ((qF_2 (by omega) (by omega) (ohF_1 (by omega)).symm).trans hra).trans (r_end (by omega)), by rw [ohF_1 (by omega)]; exact gda, by omega, by rw [(by rw [(congrFun (eh51.1 35 (by decide)) 2 : h51 35 2 = h49 35 2), (congrFun (eh49.1 35 (by decide)) 2 : h49 35 2 = h47 35 2), (by rw [eh47]; rfl : h47 35 2 = h45 35 2), (congrFun (eh45.1 35 (by decide)) 2 : h45 35 2 = h44 35 2), (congrFun (eh44.1 35 (by decide)) 2 : h44 35 2 = h23 35 2), (by rw [eh23]; rfl : h23 35 2 = h2 35 2), (by rw [eh2]; rfl : h2 35 2 = v1)] : h51 35 2 = v1)]; omega, by rw [(by rw [(congrFun (eh51.1 35 (by decide)) 3 : h51 35 3 = h49 35 3), (congrFun (eh49.1 35 (by decide)) 3 : h49 35 3 = h47 35 3), (by rw [eh47]; rfl : h47 35 3 = h45 35 3), (congrFun (eh45.1 35 (by decide)) 3 : h45 35 3 = h44 35 3), (congrFun (eh44.1 35 (by decide)) 3 : h44 35 3 = h23 35 3), (by rw [eh23]; rfl : h23 35 3 = 0)] : h51 35 3 = 0), ohF_1 (by omega)], by rw [(by rw [(congrFun (eh51.1 35 (by decide)) 4 : h51 35 4 = h49 35 4), (congrFun (eh49.1 35 (by decide)) 4 : h49 35 4 = h47 35 4), (by rw [eh47]; rfl : h47 35 4 = v46)] : h51 35 4 = v46)]; omega⟩ | exact Or.inl ⟨_, _, th51, (qF_2 (by omega) (by omega) (ohF_0 (by omega)).symm).trans hra⟩ | exact Or.inl ⟨_, _, th51, ((qF_2 (by omega) (by omega) (ohF_0 (by omega)).symm).trans hra).trans (r_fin z27 z28 (by omega))⟩ | exact Or.inr ⟨_, th51, ((qF_2 (by omega) (by omega) (ohF_0 (by omega)).symm).trans hra).trans (r_end (by omega)), by rw [ohF_0 (by omega)]; exact gda, by omega, by rw [(by rw [(congrFun (eh51.1 35 (by decide)) 2 : h51 35 2 = h49 35 2), (congrFun (eh49.1 35 (by decide)) 2 : h49 35 2 = h47 35 2), (by rw [eh47]; rfl : h47 35 2 = h45 35 2), (congrFun (eh45.1 35 (by decide)) 2 : h45 35 2 = h44 35 2), (congrFun (eh44.1 35 (by decide)) 2 : h44 35 2 = h23 35 2), (by rw [eh23]; rfl : h23 35 2 = h2 35 2), (by rw [eh2]; rfl : h2 35 2 = v1)] : h51 35 2 = v1)]; omega, by rw [(by rw [(congrFun (eh51.1 35 (by decide)) 3 : h51 35 3 = h49 35 3), (congrFun (eh49.1 35 (by decide)) 3 : h49 35 3 = h47 35 3), (by rw [eh47]; rfl : h47 35 3 = h45 35 3), (congrFun (eh45.1 35 (by decide)) 3 : h45 35 3 = h44 35 3), (congrFun (eh44.1 35 (by decide)) 3 : h44 35 3 = h23 35 3), (by rw [eh23]; rfl : h23 35 3 = 0)] : h51 35 3 = 0), ohF_0 (by omega)], by rw [(by rw [(congrFun (eh51.1 35 (by decide)) 4 : h51 35 4 = h49 35 4), (congrFun (eh49.1 35 (by decide)) 4 : h49 35 4 = h47 35 4), (by rw [eh47]; rfl : h47 35 4 = v46)] : h51 35 4 = v46)]; omega⟩⟩
              · skip
                refine z_vret (pc := 120) rfl dX4_read_120 ?_
                exact hQ h51 ⟨frh51, ff29h51, ff35h51, by first | (exfalso; omega) | exact Or.inl ⟨_, _, th51, qF_0 (by omega)⟩ | exact Or.inl ⟨_, _, th51, qF_1 (by omega) (by omega)⟩ | exact Or.inl ⟨_, _, th51, (qF_2 (by omega) (by omega) (ohF_1 (by omega)).symm).trans hra⟩ | exact Or.inl ⟨_, _, th51, ((qF_2 (by omega) (by omega) (ohF_1 (by omega)).symm).trans hra).trans (r_fin z27 z28 (by omega))⟩ | exact Or.inr ⟨_, th51, ((qF_2 (by omega) (by omega) (ohF_1 (by omega)).symm).trans hra).trans (r_end (by omega)), by rw [ohF_1 (by omega)]; exact gda, by omega, by rw [(by rw [(congrFun (eh51.1 35 (by decide)) 2 : h51 35 2 = h49 35 2), (congrFun (eh49.1 35 (by decide)) 2 : h49 35 2 = h47 35 2), (by rw [eh47]; rfl : h47 35 2 = h45 35 2), (congrFun (eh45.1 35 (by decide)) 2 : h45 35 2 = h44 35 2), (congrFun (eh44.1 35 (by decide)) 2 : h44 35 2 = h23 35 2), (by rw [eh23]; rfl : h23 35 2 = h2 35 2), (by rw [eh2]; rfl : h2 35 2 = v1)] : h51 35 2 = v1)]; omega, by rw [(by rw [(congrFun (eh51.1 35 (by decide)) 3 : h51 35 3 = h49 35 3), (congrFun (eh49.1 35 (by decide)) 3 : h49 35 3 = h47 35 3), (by rw [eh47]; rfl : h47 35 3 = h45 35 3), (congrFun (eh45.1 35 (by decide)) 3 : h45 35 3 = h44 35 3), (congrFun (eh44.1 35 (by decide)) 3 : h44 35 3 = h23 35 3), (by rw [eh23]; rfl : h23 35 3 = 0)] : h51 35 3 = 0), ohF_1 (by omega)], by rw [(by rw [(congrFun (eh51.1 35 (by decide)) 4 : h51 35 4 = h49 35 4), (congrFun (eh49.1 35 (by decide)) 4 : h49 35 4 = h47 35 4), (by rw [eh47]; rfl : h47 35 4 = v46)] : h51 35 4 = v46)]; omega⟩ | exact Or.inl ⟨_, _, th51, (qF_2 (by omega) (by omega) (ohF_0 (by omega)).symm).trans hra⟩ | exact Or.inl ⟨_, _, th51, ((qF_2 (by omega) (by omega) (ohF_0 (by omega)).symm).trans hra).trans (r_fin z27 z28 (by omega))⟩ | exact Or.inr ⟨_, th51, ((qF_2 (by omega) (by omega) (ohF_0 (by omega)).symm).trans hra).trans (r_end (by omega)), by rw [ohF_0 (by omega)]; exact gda, by omega, by rw [(by rw [(congrFun (eh51.1 35 (by decide)) 2 : h51 35 2 = h49 35 2), (congrFun (eh49.1 35 (by decide)) 2 : h49 35 2 = h47 35 2), (by rw [eh47]; rfl : h47 35 2 = h45 35 2), (congrFun (eh45.1 35 (by decide)) 2 : h45 35 2 = h44 35 2), (congrFun (eh44.1 35 (by decide)) 2 : h44 35 2 = h23 35 2), (by rw [eh23]; rfl : h23 35 2 = h2 35 2), (by rw [eh2]; rfl : h2 35 2 = v1)] : h51 35 2 = v1)]; omega, by rw [(by rw [(congrFun (eh51.1 35 (by decide)) 3 : h51 35 3 = h49 35 3), (congrFun (eh49.1 35 (by decide)) 3 : h49 35 3 = h47 35 3), (by rw [eh47]; rfl : h47 35 3 = h45 35 3), (congrFun (eh45.1 35 (by decide)) 3 : h45 35 3 = h44 35 3), (congrFun (eh44.1 35 (by decide)) 3 : h44 35 3 = h23 35 3), (by rw [eh23]; rfl : h23 35 3 = 0)] : h51 35 3 = 0), ohF_0 (by omega)], by rw [(by rw [(congrFun (eh51.1 35 (by decide)) 4 : h51 35 4 = h49 35 4), (congrFun (eh49.1 35 (by decide)) 4 : h49 35 4 = h47 35 4), (by rw [eh47]; rfl : h47 35 4 = v46)] : h51 35 4 = v46)]; omega⟩⟩
          · skip
            refine z_aload_n (pc := 93) (x := 36) dX4_read_93 rfl 0 rfl ?_
            refine z_aload_n (pc := 94) (x := 36) dX4_read_94 rfl 0 rfl ?_
            refine z_getR (pc := 95) (pl := 35) (f := 0) (ci := 4) (C := RX4) (T := TX4) (N := 5) hu_X4 (by decide) rfl rfl (by decide) rfl (List.mem_cons_of_mem _ (iw4 _ (List.mem_of_getElem? (i := 19) rfl))) rfl dX4_read_95 ?_
            refine z_callV (pc := 98) (kc := kX6_cursor) (n := 0) (pl := 29) (ci := 5) (C := RX6) (As := []) (stk := [AR 36]) ct_X6_cursor_TF (gdV rfl rfl (iw32 _ (List.mem_of_getElem? (i := 3) rfl)) (iw32 _ (List.mem_of_getElem? (i := 4) rfl)) (iw32 _ (List.mem_of_getElem? (i := 5) rfl)) (iw2 _ (List.mem_of_getElem? (i := 4) rfl)) (iw32 _ (List.mem_of_getElem? (i := 6) rfl))) rfl ⟨rfl, rfl⟩ (by decide +kernel) ⟨by decide, by decide⟩ (by decide) rfl rfl dX4_read_98 rfl rfl (Nat.le_of_ble_eq_true rfl) ?_
            refine ⟨S, P, V, m, 1, (P (0 + 1)), rfl, th45, fun v52 ev52 => ?_⟩
            refine z_putI (pc := 101) (pl := 35) (f := 4) (ci := 4) (C := RX4) (T := TX4) (N := 5) hu_X4 tyX4_ok nmX4 (by decide) rfl rfl (by decide) rfl (List.mem_cons_of_mem _ (iw4 _ (List.mem_of_getElem? (i := 18) rfl))) rfl rfl (ty := .int) (by decide +kernel) rfl rfl ⟨by omega, by omega⟩ dX4_read_101 (fun h53 eh53 => ?_)
            have frh53 : Fr [29, 35] hi h53 := (Fr.put frh45 eh53 (by decide))
            have ff29h53 : FF 29 [6, 7, 8] hi h53 := FF.oth ff29h45 eh53 (by decide)
            have ff35h53 : FF 35 [2, 3, 4] hi h53 := FF.put ff35h45 eh53 (by decide)
            have th53 : TF h53 S P V m 1 (P (0 + 1)) := TF.oth th45 eh53 (by decide)
            refine z_aload_n (pc := 104) (x := 36) dX4_read_104 rfl 0 rfl ?_
            refine z_iconst (pc := 105) (v := 0) dX4_read_105 rfl ?_
            refine z_callV (pc := 106) (kc := (kX4_condHolds 5)) (n := 1) (pl := 35) (ci := 4) (C := RX4) (As := [AI 0]) (stk := []) ct_X4_condHolds_TF (gdV rfl rfl (iw32 _ (List.mem_of_getElem? (i := 7) rfl)) (iw32 _ (List.mem_of_getElem? (i := 8) rfl)) (iw32 _ (List.mem_of_getElem? (i := 9) rfl)) (iw2 _ (List.mem_of_getElem? (i := 12) rfl)) (iw32 _ (List.mem_of_getElem? (i := 10) rfl))) rfl ⟨rfl, rfl⟩ (by decide +kernel) ⟨by decide, by decide⟩ (by decide) rfl rfl dX4_read_106 rfl rfl (Nat.le_of_ble_eq_true rfl) ?_
            refine ⟨_, S, P, V, m, 1, (P (0 + 1)), rfl, ⟨th53, trivial⟩, fun v54 h55 eh55 => ?_⟩
            have frh55 : Fr [29, 35] hi h55 := (Fr.call frh53 eh55.1 (by decide))
            have ff29h55 : FF 29 [6, 7, 8] hi h55 := FF.call ff29h53 (eh55.2.1) (by decide)
            have ff35h55 : FF 35 [2, 3, 4] hi h55 := FF.call0 ff35h53 eh55.1 (by decide)
            have eph55 := eh55.2.2
            replace eh55 := And.intro eh55.1 (And.intro eh55.2.1 trivial)
            obtain ⟨tbh55, th55⟩ := eph55
            refine z_pop (pc := 109) dX4_read_109 rfl ?_
            refine z_aload_n (pc := 110) (x := 36) dX4_read_110 rfl 0 rfl ?_
            refine z_getR (pc := 111) (pl := 35) (f := 0) (ci := 4) (C := RX4) (T := TX4) (N := 5) hu_X4 (by decide) rfl rfl (by decide) rfl (List.mem_cons_of_mem _ (iw4 _ (List.mem_of_getElem? (i := 19) rfl))) rfl dX4_read_111 ?_
            refine z_getstE (pc := 114) (i := 0) (z := 0) (by decide) rfl (List.mem_cons_of_mem _ (iw31 _ (List.mem_of_getElem? (i := 22) rfl))) dX4_read_114 ?_
            refine z_callV (pc := 117) (kc := kX6_expect) (n := 1) (pl := 29) (ci := 5) (C := RX6) (As := [AR (ec 0)]) (stk := []) ct_X6_expect_TF (gdV rfl rfl (iw32 _ (List.mem_of_getElem? (i := 2) rfl)) (iw24 _ (List.mem_of_getElem? (i := 12) rfl)) (iw24 _ (List.mem_of_getElem? (i := 13) rfl)) (iw2 _ (List.mem_of_getElem? (i := 4) rfl)) (iw24 _ (List.mem_of_getElem? (i := 14) rfl))) rfl ⟨rfl, rfl⟩ (by decide +kernel) ⟨by decide, by decide⟩ (by decide) rfl rfl dX4_read_117 rfl rfl (Nat.le_of_ble_eq_true rfl) ?_
            refine ⟨_, S, P, V, m, 1, (P (0 + 1)), rfl, ⟨th55, by decide, by decide⟩, fun h56 eh56 => ?_⟩
            have frh56 : Fr [29, 35] hi h56 := (Fr.call frh55 eh56.1 (by decide))
            have ff29h56 : FF 29 [6, 7, 8] hi h56 := FF.call ff29h55 (eh56.2.1) (by decide)
            have ff35h56 : FF 35 [2, 3, 4] hi h56 := FF.call0 ff35h55 eh56.1 (by decide)
            have eph56 := eh56.2.2
            replace eh56 := And.intro eh56.1 (And.intro eh56.2.1 trivial)
            have th56 := eph56
            refine z_vret (pc := 120) rfl dX4_read_120 ?_
            exact hQ h56 ⟨frh56, ff29h56, ff35h56, by first | (exfalso; omega) | exact Or.inl ⟨_, _, th56, qF_0 (by omega)⟩ | exact Or.inl ⟨_, _, th56, qF_1 (by omega) (by omega)⟩ | exact Or.inl ⟨_, _, th56, (qF_2 (by omega) (by omega) (ohF_1 (by omega)).symm).trans hra⟩ | exact Or.inl ⟨_, _, th56, ((qF_2 (by omega) (by omega) (ohF_1 (by omega)).symm).trans hra).trans (r_fin z27 z28 (by omega))⟩ | exact Or.inr ⟨_, th56, ((qF_2 (by omega) (by omega) (ohF_1 (by omega)).symm).trans hra).trans (r_end (by omega)), by rw [ohF_1 (by omega)]; exact gda, by omega, by rw [(by rw [(congrFun (eh56.1 35 (by decide)) 2 : h56 35 2 = h55 35 2), (congrFun (eh55.1 35 (by decide)) 2 : h55 35 2 = h53 35 2), (by rw [eh53]; rfl : h53 35 2 = h45 35 2), (congrFun (eh45.1 35 (by decide)) 2 : h45 35 2 = h44 35 2), (congrFun (eh44.1 35 (by decide)) 2 : h44 35 2 = h23 35 2), (by rw [eh23]; rfl : h23 35 2 = h2 35 2), (by rw [eh2]; rfl : h2 35 2 = v1)] : h56 35 2 = v1)]; omega, by rw [(by rw [(congrFun (eh56.1 35 (by decide)) 3 : h56 35 3 = h55 35 3), (congrFun (eh55.1 35 (by decide)) 3 : h55 35 3 = h53 35 3), (by rw [eh53]; rfl : h53 35 3 = h45 35 3), (congrFun (eh45.1 35 (by decide)) 3 : h45 35 3 = h44 35 3), (congrFun (eh44.1 35 (by decide)) 3 : h44 35 3 = h23 35 3), (by rw [eh23]; rfl : h23 35 3 = 0)] : h56 35 3 = 0), ohF_1 (by omega)], by rw [(by rw [(congrFun (eh56.1 35 (by decide)) 4 : h56 35 4 = h55 35 4), (congrFun (eh55.1 35 (by decide)) 4 : h55 35 4 = h53 35 4), (by rw [eh53]; rfl : h53 35 4 = v52)] : h56 35 4 = v52)]; omega⟩ | exact Or.inl ⟨_, _, th56, (qF_2 (by omega) (by omega) (ohF_0 (by omega)).symm).trans hra⟩ | exact Or.inl ⟨_, _, th56, ((qF_2 (by omega) (by omega) (ohF_0 (by omega)).symm).trans hra).trans (r_fin z27 z28 (by omega))⟩ | exact Or.inr ⟨_, th56, ((qF_2 (by omega) (by omega) (ohF_0 (by omega)).symm).trans hra).trans (r_end (by omega)), by rw [ohF_0 (by omega)]; exact gda, by omega, by rw [(by rw [(congrFun (eh56.1 35 (by decide)) 2 : h56 35 2 = h55 35 2), (congrFun (eh55.1 35 (by decide)) 2 : h55 35 2 = h53 35 2), (by rw [eh53]; rfl : h53 35 2 = h45 35 2), (congrFun (eh45.1 35 (by decide)) 2 : h45 35 2 = h44 35 2), (congrFun (eh44.1 35 (by decide)) 2 : h44 35 2 = h23 35 2), (by rw [eh23]; rfl : h23 35 2 = h2 35 2), (by rw [eh2]; rfl : h2 35 2 = v1)] : h56 35 2 = v1)]; omega, by rw [(by rw [(congrFun (eh56.1 35 (by decide)) 3 : h56 35 3 = h55 35 3), (congrFun (eh55.1 35 (by decide)) 3 : h55 35 3 = h53 35 3), (by rw [eh53]; rfl : h53 35 3 = h45 35 3), (congrFun (eh45.1 35 (by decide)) 3 : h45 35 3 = h44 35 3), (congrFun (eh44.1 35 (by decide)) 3 : h44 35 3 = h23 35 3), (by rw [eh23]; rfl : h23 35 3 = 0)] : h56 35 3 = 0), ohF_0 (by omega)], by rw [(by rw [(congrFun (eh56.1 35 (by decide)) 4 : h56 35 4 = h55 35 4), (congrFun (eh55.1 35 (by decide)) 4 : h55 35 4 = h53 35 4), (by rw [eh53]; rfl : h53 35 4 = v52)] : h56 35 4 = v52)]; omega⟩⟩
        · refine z_aload_n (pc := 67) (x := 36) dX4_read_67 rfl 0 rfl ?_
          refine z_getR (pc := 68) (pl := 35) (f := 0) (ci := 4) (C := RX4) (T := TX4) (N := 5) hu_X4 (by decide) rfl rfl (by decide) rfl (List.mem_cons_of_mem _ (iw4 _ (List.mem_of_getElem? (i := 19) rfl))) rfl dX4_read_68 ?_
          refine z_iconst (pc := 71) (v := 1) dX4_read_71 rfl ?_
          refine z_callV (pc := 72) (kc := kX6_fail) (n := 1) (pl := 29) (ci := 5) (C := RX6) (As := [AI 1]) (stk := []) ct_X6_fail_TS (gdV rfl rfl (iw32 _ (List.mem_of_getElem? (i := 0) rfl)) (iw23 _ (List.mem_of_getElem? (i := 13) rfl)) (iw23 _ (List.mem_of_getElem? (i := 14) rfl)) (iw2 _ (List.mem_of_getElem? (i := 4) rfl)) (iw23 _ (List.mem_of_getElem? (i := 15) rfl))) rfl ⟨rfl, rfl⟩ (by decide +kernel) ⟨by decide, by decide⟩ (by decide) rfl rfl dX4_read_72 rfl rfl (Nat.le_of_ble_eq_true rfl) ?_
          refine ⟨_, S, P, V, m, 0, rfl, ⟨th23, ⟨by decide, by decide⟩, by decide⟩, fun h57 eh57 => ?_⟩
          have frh57 : Fr [29, 35] hi h57 := (Fr.call frh23 eh57.1 (by decide))
          have ff29h57 : FF 29 [6, 7, 8] hi h57 := FF.call ff29h23 (eh57.2.1) (by decide)
          have ff35h57 : FF 35 [2, 3, 4] hi h57 := FF.call0 ff35h23 eh57.1 (by decide)
          have eph57 := eh57.2.2
          replace eh57 := And.intro eh57.1 (And.intro eh57.2.1 trivial)
          have th57 := eph57
          refine z_aload_n (pc := 75) (x := 36) dX4_read_75 rfl 0 rfl ?_
          refine z_getR (pc := 76) (pl := 35) (f := 0) (ci := 4) (C := RX4) (T := TX4) (N := 5) hu_X4 (by decide) rfl rfl (by decide) rfl (List.mem_cons_of_mem _ (iw4 _ (List.mem_of_getElem? (i := 19) rfl))) rfl dX4_read_76 ?_
          refine z_callV (pc := 79) (kc := kX6_pass) (n := 0) (pl := 29) (ci := 5) (C := RX6) (As := []) (stk := []) ct_X6_pass_TF (gdV rfl rfl (iw32 _ (List.mem_of_getElem? (i := 1) rfl)) (iw23 _ (List.mem_of_getElem? (i := 5) rfl)) (iw23 _ (List.mem_of_getElem? (i := 6) rfl)) (iw2 _ (List.mem_of_getElem? (i := 4) rfl)) (iw23 _ (List.mem_of_getElem? (i := 7) rfl))) rfl ⟨rfl, rfl⟩ (by decide +kernel) ⟨by decide, by decide⟩ (by decide) rfl rfl dX4_read_79 rfl rfl (Nat.le_of_ble_eq_true rfl) ?_
          refine ⟨S, P, V, m, 1, (P 0), rfl, th57, fun v58 h59 eh59 => ?_⟩
          have frh59 : Fr [29, 35] hi h59 := (Fr.call frh57 eh59.1 (by decide))
          have ff29h59 : FF 29 [6, 7, 8] hi h59 := FF.call ff29h57 (eh59.2.1) (by decide)
          have ff35h59 : FF 35 [2, 3, 4] hi h59 := FF.call0 ff35h57 eh59.1 (by decide)
          have eph59 := eh59.2.2
          replace eh59 := And.intro eh59.1 (And.intro eh59.2.1 trivial)
          have th59 := eph59
          refine z_pop (pc := 82) dX4_read_82 rfl ?_
          refine z_aload_n (pc := 83) (x := 36) dX4_read_83 rfl 0 rfl ?_
          refine z_getR (pc := 84) (pl := 35) (f := 0) (ci := 4) (C := RX4) (T := TX4) (N := 5) hu_X4 (by decide) rfl rfl (by decide) rfl (List.mem_cons_of_mem _ (iw4 _ (List.mem_of_getElem? (i := 19) rfl))) rfl dX4_read_84 ?_
          refine z_getstE (pc := 87) (i := 26) (z := 26) (by decide) rfl (List.mem_cons_of_mem _ (iw31 _ (List.mem_of_getElem? (i := 21) rfl))) dX4_read_87 ?_
          refine z_callV (pc := 90) (kc := kX6_expect) (n := 1) (pl := 29) (ci := 5) (C := RX6) (As := [AR (ec 26)]) (stk := []) ct_X6_expect_TF (gdV rfl rfl (iw32 _ (List.mem_of_getElem? (i := 2) rfl)) (iw24 _ (List.mem_of_getElem? (i := 12) rfl)) (iw24 _ (List.mem_of_getElem? (i := 13) rfl)) (iw2 _ (List.mem_of_getElem? (i := 4) rfl)) (iw24 _ (List.mem_of_getElem? (i := 14) rfl))) rfl ⟨rfl, rfl⟩ (by decide +kernel) ⟨by decide, by decide⟩ (by decide) rfl rfl dX4_read_90 rfl rfl (Nat.le_of_ble_eq_true rfl) ?_
          refine ⟨_, S, P, V, m, 1, (P 0), rfl, ⟨th59, by decide, by decide⟩, fun h60 eh60 => ?_⟩
          have frh60 : Fr [29, 35] hi h60 := (Fr.call frh59 eh60.1 (by decide))
          have ff29h60 : FF 29 [6, 7, 8] hi h60 := FF.call ff29h59 (eh60.2.1) (by decide)
          have ff35h60 : FF 35 [2, 3, 4] hi h60 := FF.call0 ff35h59 eh60.1 (by decide)
          have eph60 := eh60.2.2
          replace eh60 := And.intro eh60.1 (And.intro eh60.2.1 trivial)
          have th60 := eph60
          refine z_aload_n (pc := 93) (x := 36) dX4_read_93 rfl 0 rfl ?_
          refine z_aload_n (pc := 94) (x := 36) dX4_read_94 rfl 0 rfl ?_
          refine z_getR (pc := 95) (pl := 35) (f := 0) (ci := 4) (C := RX4) (T := TX4) (N := 5) hu_X4 (by decide) rfl rfl (by decide) rfl (List.mem_cons_of_mem _ (iw4 _ (List.mem_of_getElem? (i := 19) rfl))) rfl dX4_read_95 ?_
          refine z_callV (pc := 98) (kc := kX6_cursor) (n := 0) (pl := 29) (ci := 5) (C := RX6) (As := []) (stk := [AR 36]) ct_X6_cursor_TF (gdV rfl rfl (iw32 _ (List.mem_of_getElem? (i := 3) rfl)) (iw32 _ (List.mem_of_getElem? (i := 4) rfl)) (iw32 _ (List.mem_of_getElem? (i := 5) rfl)) (iw2 _ (List.mem_of_getElem? (i := 4) rfl)) (iw32 _ (List.mem_of_getElem? (i := 6) rfl))) rfl ⟨rfl, rfl⟩ (by decide +kernel) ⟨by decide, by decide⟩ (by decide) rfl rfl dX4_read_98 rfl rfl (Nat.le_of_ble_eq_true rfl) ?_
          refine ⟨S, P, V, m, 1, (P 0), rfl, th60, fun v61 ev61 => ?_⟩
          refine z_putI (pc := 101) (pl := 35) (f := 4) (ci := 4) (C := RX4) (T := TX4) (N := 5) hu_X4 tyX4_ok nmX4 (by decide) rfl rfl (by decide) rfl (List.mem_cons_of_mem _ (iw4 _ (List.mem_of_getElem? (i := 18) rfl))) rfl rfl (ty := .int) (by decide +kernel) rfl rfl ⟨by omega, by omega⟩ dX4_read_101 (fun h62 eh62 => ?_)
          have frh62 : Fr [29, 35] hi h62 := (Fr.put frh60 eh62 (by decide))
          have ff29h62 : FF 29 [6, 7, 8] hi h62 := FF.oth ff29h60 eh62 (by decide)
          have ff35h62 : FF 35 [2, 3, 4] hi h62 := FF.put ff35h60 eh62 (by decide)
          have th62 : TF h62 S P V m 1 (P 0) := TF.oth th60 eh62 (by decide)
          refine z_aload_n (pc := 104) (x := 36) dX4_read_104 rfl 0 rfl ?_
          refine z_iconst (pc := 105) (v := 0) dX4_read_105 rfl ?_
          refine z_callV (pc := 106) (kc := (kX4_condHolds 5)) (n := 1) (pl := 35) (ci := 4) (C := RX4) (As := [AI 0]) (stk := []) ct_X4_condHolds_TF (gdV rfl rfl (iw32 _ (List.mem_of_getElem? (i := 7) rfl)) (iw32 _ (List.mem_of_getElem? (i := 8) rfl)) (iw32 _ (List.mem_of_getElem? (i := 9) rfl)) (iw2 _ (List.mem_of_getElem? (i := 12) rfl)) (iw32 _ (List.mem_of_getElem? (i := 10) rfl))) rfl ⟨rfl, rfl⟩ (by decide +kernel) ⟨by decide, by decide⟩ (by decide) rfl rfl dX4_read_106 rfl rfl (Nat.le_of_ble_eq_true rfl) ?_
          refine ⟨_, S, P, V, m, 1, (P 0), rfl, ⟨th62, trivial⟩, fun v63 h64 eh64 => ?_⟩
          have frh64 : Fr [29, 35] hi h64 := (Fr.call frh62 eh64.1 (by decide))
          have ff29h64 : FF 29 [6, 7, 8] hi h64 := FF.call ff29h62 (eh64.2.1) (by decide)
          have ff35h64 : FF 35 [2, 3, 4] hi h64 := FF.call0 ff35h62 eh64.1 (by decide)
          have eph64 := eh64.2.2
          replace eh64 := And.intro eh64.1 (And.intro eh64.2.1 trivial)
          obtain ⟨tbh64, th64⟩ := eph64
          refine z_pop (pc := 109) dX4_read_109 rfl ?_
          refine z_aload_n (pc := 110) (x := 36) dX4_read_110 rfl 0 rfl ?_
          refine z_getR (pc := 111) (pl := 35) (f := 0) (ci := 4) (C := RX4) (T := TX4) (N := 5) hu_X4 (by decide) rfl rfl (by decide) rfl (List.mem_cons_of_mem _ (iw4 _ (List.mem_of_getElem? (i := 19) rfl))) rfl dX4_read_111 ?_
          refine z_getstE (pc := 114) (i := 0) (z := 0) (by decide) rfl (List.mem_cons_of_mem _ (iw31 _ (List.mem_of_getElem? (i := 22) rfl))) dX4_read_114 ?_
          refine z_callV (pc := 117) (kc := kX6_expect) (n := 1) (pl := 29) (ci := 5) (C := RX6) (As := [AR (ec 0)]) (stk := []) ct_X6_expect_TF (gdV rfl rfl (iw32 _ (List.mem_of_getElem? (i := 2) rfl)) (iw24 _ (List.mem_of_getElem? (i := 12) rfl)) (iw24 _ (List.mem_of_getElem? (i := 13) rfl)) (iw2 _ (List.mem_of_getElem? (i := 4) rfl)) (iw24 _ (List.mem_of_getElem? (i := 14) rfl))) rfl ⟨rfl, rfl⟩ (by decide +kernel) ⟨by decide, by decide⟩ (by decide) rfl rfl dX4_read_117 rfl rfl (Nat.le_of_ble_eq_true rfl) ?_
          refine ⟨_, S, P, V, m, 1, (P 0), rfl, ⟨th64, by decide, by decide⟩, fun h65 eh65 => ?_⟩
          have frh65 : Fr [29, 35] hi h65 := (Fr.call frh64 eh65.1 (by decide))
          have ff29h65 : FF 29 [6, 7, 8] hi h65 := FF.call ff29h64 (eh65.2.1) (by decide)
          have ff35h65 : FF 35 [2, 3, 4] hi h65 := FF.call0 ff35h64 eh65.1 (by decide)
          have eph65 := eh65.2.2
          replace eh65 := And.intro eh65.1 (And.intro eh65.2.1 trivial)
          have th65 := eph65
          refine z_vret (pc := 120) rfl dX4_read_120 ?_
          exact hQ h65 ⟨frh65, ff29h65, ff35h65, by first | (exfalso; omega) | exact Or.inl ⟨_, _, th65, qF_0 (by omega)⟩ | exact Or.inl ⟨_, _, th65, qF_1 (by omega) (by omega)⟩ | exact Or.inl ⟨_, _, th65, (qF_2 (by omega) (by omega) (ohF_1 (by omega)).symm).trans hra⟩ | exact Or.inl ⟨_, _, th65, ((qF_2 (by omega) (by omega) (ohF_1 (by omega)).symm).trans hra).trans (r_fin z27 z28 (by omega))⟩ | exact Or.inr ⟨_, th65, ((qF_2 (by omega) (by omega) (ohF_1 (by omega)).symm).trans hra).trans (r_end (by omega)), by rw [ohF_1 (by omega)]; exact gda, by omega, by rw [(by rw [(congrFun (eh65.1 35 (by decide)) 2 : h65 35 2 = h64 35 2), (congrFun (eh64.1 35 (by decide)) 2 : h64 35 2 = h62 35 2), (by rw [eh62]; rfl : h62 35 2 = h60 35 2), (congrFun (eh60.1 35 (by decide)) 2 : h60 35 2 = h59 35 2), (congrFun (eh59.1 35 (by decide)) 2 : h59 35 2 = h57 35 2), (congrFun (eh57.1 35 (by decide)) 2 : h57 35 2 = h23 35 2), (by rw [eh23]; rfl : h23 35 2 = h2 35 2), (by rw [eh2]; rfl : h2 35 2 = v1)] : h65 35 2 = v1)]; omega, by rw [(by rw [(congrFun (eh65.1 35 (by decide)) 3 : h65 35 3 = h64 35 3), (congrFun (eh64.1 35 (by decide)) 3 : h64 35 3 = h62 35 3), (by rw [eh62]; rfl : h62 35 3 = h60 35 3), (congrFun (eh60.1 35 (by decide)) 3 : h60 35 3 = h59 35 3), (congrFun (eh59.1 35 (by decide)) 3 : h59 35 3 = h57 35 3), (congrFun (eh57.1 35 (by decide)) 3 : h57 35 3 = h23 35 3), (by rw [eh23]; rfl : h23 35 3 = 0)] : h65 35 3 = 0), ohF_1 (by omega)], by rw [(by rw [(congrFun (eh65.1 35 (by decide)) 4 : h65 35 4 = h64 35 4), (congrFun (eh64.1 35 (by decide)) 4 : h64 35 4 = h62 35 4), (by rw [eh62]; rfl : h62 35 4 = v61)] : h65 35 4 = v61)]; omega⟩ | exact Or.inl ⟨_, _, th65, (qF_2 (by omega) (by omega) (ohF_0 (by omega)).symm).trans hra⟩ | exact Or.inl ⟨_, _, th65, ((qF_2 (by omega) (by omega) (ohF_0 (by omega)).symm).trans hra).trans (r_fin z27 z28 (by omega))⟩ | exact Or.inr ⟨_, th65, ((qF_2 (by omega) (by omega) (ohF_0 (by omega)).symm).trans hra).trans (r_end (by omega)), by rw [ohF_0 (by omega)]; exact gda, by omega, by rw [(by rw [(congrFun (eh65.1 35 (by decide)) 2 : h65 35 2 = h64 35 2), (congrFun (eh64.1 35 (by decide)) 2 : h64 35 2 = h62 35 2), (by rw [eh62]; rfl : h62 35 2 = h60 35 2), (congrFun (eh60.1 35 (by decide)) 2 : h60 35 2 = h59 35 2), (congrFun (eh59.1 35 (by decide)) 2 : h59 35 2 = h57 35 2), (congrFun (eh57.1 35 (by decide)) 2 : h57 35 2 = h23 35 2), (by rw [eh23]; rfl : h23 35 2 = h2 35 2), (by rw [eh2]; rfl : h2 35 2 = v1)] : h65 35 2 = v1)]; omega, by rw [(by rw [(congrFun (eh65.1 35 (by decide)) 3 : h65 35 3 = h64 35 3), (congrFun (eh64.1 35 (by decide)) 3 : h64 35 3 = h62 35 3), (by rw [eh62]; rfl : h62 35 3 = h60 35 3), (congrFun (eh60.1 35 (by decide)) 3 : h60 35 3 = h59 35 3), (congrFun (eh59.1 35 (by decide)) 3 : h59 35 3 = h57 35 3), (congrFun (eh57.1 35 (by decide)) 3 : h57 35 3 = h23 35 3), (by rw [eh23]; rfl : h23 35 3 = 0)] : h65 35 3 = 0), ohF_0 (by omega)], by rw [(by rw [(congrFun (eh65.1 35 (by decide)) 4 : h65 35 4 = h64 35 4), (congrFun (eh64.1 35 (by decide)) 4 : h64 35 4 = h62 35 4), (by rw [eh62]; rfl : h62 35 4 = v61)] : h65 35 4 = v61)]; omega⟩⟩
    · refine z_iconst (pc := 32) (v := 1) dX4_read_32 rfl ?_
      refine z_goto (pc := 33) (tgt := 37) dX4_read_33 (by decide) ?_
      refine z_putI (pc := 37) (pl := 35) (f := 3) (ci := 4) (C := RX4) (T := TX4) (N := 5) hu_X4 tyX4_ok nmX4 (by decide) rfl rfl (by decide) rfl (List.mem_cons_of_mem _ (iw4 _ (List.mem_of_getElem? (i := 17) rfl))) rfl rfl (ty := .boolean) (by decide +kernel) rfl rfl ⟨by decide, by decide⟩ dX4_read_37 (fun h66 eh66 => ?_)
      have frh66 : Fr [29, 35] hi h66 := (Fr.put frh2 eh66 (by decide))
      have ff29h66 : FF 29 [6, 7, 8] hi h66 := FF.oth ff29h2 eh66 (by decide)
      have ff35h66 : FF 35 [2, 3, 4] hi h66 := FF.put ff35h2 eh66 (by decide)
      have th66 : TS h66 S P V m 0 := TS.oth th2 eh66 (by decide)
      refine z_aload_n (pc := 40) (x := 36) dX4_read_40 rfl 0 rfl ?_
      refine z_getI (pc := 41) (pl := 35) (f := 3) (ci := 4) (C := RX4) (T := TX4) (N := 5) hu_X4 (by decide) rfl rfl (by decide) rfl (List.mem_cons_of_mem _ (iw4 _ (List.mem_of_getElem? (i := 17) rfl))) rfl (by decide) dX4_read_41 (fun v67 ev67 rv67 => ?_)
      rw [(by rw [eh66]; rfl : h66 35 3 = 1)] at ev67
      obtain rfl : v67 = 1 := ev67
      refine z_if_ne (pc := 44) (tgt := 75) dX4_read_44 (by decide) ⟨by decide, by decide⟩ (fun _ => ?_) (fun q => absurd q (by decide))
      refine z_aload_n (pc := 75) (x := 36) dX4_read_75 rfl 0 rfl ?_
      refine z_getR (pc := 76) (pl := 35) (f := 0) (ci := 4) (C := RX4) (T := TX4) (N := 5) hu_X4 (by decide) rfl rfl (by decide) rfl (List.mem_cons_of_mem _ (iw4 _ (List.mem_of_getElem? (i := 19) rfl))) rfl dX4_read_76 ?_
      refine z_callV (pc := 79) (kc := kX6_pass) (n := 0) (pl := 29) (ci := 5) (C := RX6) (As := []) (stk := []) ct_X6_pass_TS (gdV rfl rfl (iw32 _ (List.mem_of_getElem? (i := 1) rfl)) (iw23 _ (List.mem_of_getElem? (i := 5) rfl)) (iw23 _ (List.mem_of_getElem? (i := 6) rfl)) (iw2 _ (List.mem_of_getElem? (i := 4) rfl)) (iw23 _ (List.mem_of_getElem? (i := 7) rfl))) rfl ⟨rfl, rfl⟩ (by decide +kernel) ⟨by decide, by decide⟩ (by decide) rfl rfl dX4_read_79 rfl rfl (Nat.le_of_ble_eq_true rfl) ?_
      refine ⟨S, P, V, m, 0, rfl, ⟨th66, by omega⟩, fun v68 h69 eh69 => ?_⟩
      have frh69 : Fr [29, 35] hi h69 := (Fr.call frh66 eh69.1 (by decide))
      have ff29h69 : FF 29 [6, 7, 8] hi h69 := FF.call ff29h66 (eh69.2.1) (by decide)
      have ff35h69 : FF 35 [2, 3, 4] hi h69 := FF.call0 ff35h66 eh69.1 (by decide)
      have eph69 := eh69.2.2
      replace eh69 := And.intro eh69.1 (And.intro eh69.2.1 trivial)
      obtain ⟨gh69, th69⟩ := eph69
      refine z_pop (pc := 82) dX4_read_82 rfl ?_
      refine z_aload_n (pc := 83) (x := 36) dX4_read_83 rfl 0 rfl ?_
      refine z_getR (pc := 84) (pl := 35) (f := 0) (ci := 4) (C := RX4) (T := TX4) (N := 5) hu_X4 (by decide) rfl rfl (by decide) rfl (List.mem_cons_of_mem _ (iw4 _ (List.mem_of_getElem? (i := 19) rfl))) rfl dX4_read_84 ?_
      refine z_getstE (pc := 87) (i := 26) (z := 26) (by decide) rfl (List.mem_cons_of_mem _ (iw31 _ (List.mem_of_getElem? (i := 21) rfl))) dX4_read_87 ?_
      refine z_callV (pc := 90) (kc := kX6_expect) (n := 1) (pl := 29) (ci := 5) (C := RX6) (As := [AR (ec 26)]) (stk := []) ct_X6_expect_TS (gdV rfl rfl (iw32 _ (List.mem_of_getElem? (i := 2) rfl)) (iw24 _ (List.mem_of_getElem? (i := 12) rfl)) (iw24 _ (List.mem_of_getElem? (i := 13) rfl)) (iw2 _ (List.mem_of_getElem? (i := 4) rfl)) (iw24 _ (List.mem_of_getElem? (i := 14) rfl))) rfl ⟨rfl, rfl⟩ (by decide +kernel) ⟨by decide, by decide⟩ (by decide) rfl rfl dX4_read_90 rfl rfl (Nat.le_of_ble_eq_true rfl) ?_
      refine ⟨_, S, P, V, m, (0 + 1), rfl, ⟨th69, by decide, by decide⟩, fun h70 eh70 => ?_⟩
      have frh70 : Fr [29, 35] hi h70 := (Fr.call frh69 eh70.1 (by decide))
      have ff29h70 : FF 29 [6, 7, 8] hi h70 := FF.call ff29h69 (eh70.2.1) (by decide)
      have ff35h70 : FF 35 [2, 3, 4] hi h70 := FF.call0 ff35h69 eh70.1 (by decide)
      have eph70 := eh70.2.2
      replace eh70 := And.intro eh70.1 (And.intro eh70.2.1 trivial)
      rcases eph70 with ⟨sh70, th70⟩ | ⟨sh70, th70⟩
      · skip
        refine z_aload_n (pc := 93) (x := 36) dX4_read_93 rfl 0 rfl ?_
        refine z_aload_n (pc := 94) (x := 36) dX4_read_94 rfl 0 rfl ?_
        refine z_getR (pc := 95) (pl := 35) (f := 0) (ci := 4) (C := RX4) (T := TX4) (N := 5) hu_X4 (by decide) rfl rfl (by decide) rfl (List.mem_cons_of_mem _ (iw4 _ (List.mem_of_getElem? (i := 19) rfl))) rfl dX4_read_95 ?_
        refine z_callV (pc := 98) (kc := kX6_cursor) (n := 0) (pl := 29) (ci := 5) (C := RX6) (As := []) (stk := [AR 36]) ct_X6_cursor_TS (gdV rfl rfl (iw32 _ (List.mem_of_getElem? (i := 3) rfl)) (iw32 _ (List.mem_of_getElem? (i := 4) rfl)) (iw32 _ (List.mem_of_getElem? (i := 5) rfl)) (iw2 _ (List.mem_of_getElem? (i := 4) rfl)) (iw32 _ (List.mem_of_getElem? (i := 6) rfl))) rfl ⟨rfl, rfl⟩ (by decide +kernel) ⟨by decide, by decide⟩ (by decide) rfl rfl dX4_read_98 rfl rfl (Nat.le_of_ble_eq_true rfl) ?_
        refine ⟨S, P, V, m, ((0 + 1) + 1), rfl, th70, fun v71 ev71 => ?_⟩
        refine z_putI (pc := 101) (pl := 35) (f := 4) (ci := 4) (C := RX4) (T := TX4) (N := 5) hu_X4 tyX4_ok nmX4 (by decide) rfl rfl (by decide) rfl (List.mem_cons_of_mem _ (iw4 _ (List.mem_of_getElem? (i := 18) rfl))) rfl rfl (ty := .int) (by decide +kernel) rfl rfl ⟨by omega, by omega⟩ dX4_read_101 (fun h72 eh72 => ?_)
        have frh72 : Fr [29, 35] hi h72 := (Fr.put frh70 eh72 (by decide))
        have ff29h72 : FF 29 [6, 7, 8] hi h72 := FF.oth ff29h70 eh72 (by decide)
        have ff35h72 : FF 35 [2, 3, 4] hi h72 := FF.put ff35h70 eh72 (by decide)
        have th72 : TS h72 S P V m ((0 + 1) + 1) := TS.oth th70 eh72 (by decide)
        refine z_aload_n (pc := 104) (x := 36) dX4_read_104 rfl 0 rfl ?_
        refine z_iconst (pc := 105) (v := 0) dX4_read_105 rfl ?_
        refine z_callV (pc := 106) (kc := (kX4_condHolds 5)) (n := 1) (pl := 35) (ci := 4) (C := RX4) (As := [AI 0]) (stk := []) ct_X4_condHolds_0 (gdV rfl rfl (iw32 _ (List.mem_of_getElem? (i := 7) rfl)) (iw32 _ (List.mem_of_getElem? (i := 8) rfl)) (iw32 _ (List.mem_of_getElem? (i := 9) rfl)) (iw2 _ (List.mem_of_getElem? (i := 12) rfl)) (iw32 _ (List.mem_of_getElem? (i := 10) rfl))) rfl ⟨rfl, rfl⟩ (by decide +kernel) ⟨by decide, by decide⟩ (by decide) rfl rfl dX4_read_106 rfl rfl (Nat.le_of_ble_eq_true rfl) ?_
        refine ⟨_, S, P, V, m, ((0 + 1) + 1), rfl, ⟨th72, by rw [(by rw [eh72]; rfl : h72 35 3 = h70 35 3), (congrFun (eh70.1 35 (by decide)) 3 : h70 35 3 = h69 35 3), (congrFun (eh69.1 35 (by decide)) 3 : h69 35 3 = h66 35 3), (by rw [eh66]; rfl : h66 35 3 = 1), (by rw [eh72]; rfl : h72 36 = h70 36), (eh70.1 36 (by decide) : h70 36 = h69 36), (eh69.1 36 (by decide) : h69 36 = h66 36), (by rw [eh66]; rfl : h66 36 = h2 36), (by rw [eh2]; rfl : h2 36 = hi 36)]; exact ⟨by decide, hph, hV⟩, rfl⟩, fun v73 h74 eh74 => ?_⟩
        have frh74 : Fr [29, 35] hi h74 := (Fr.call frh72 eh74.1 (by decide))
        have ff29h74 : FF 29 [6, 7, 8] hi h74 := FF.call ff29h72 (eh74.2.1) (by decide)
        have ff35h74 : FF 35 [2, 3, 4] hi h74 := FF.call0 ff35h72 eh74.1 (by decide)
        rw [(by rw [eh72]; rfl : h72 35 3 = h70 35 3), (congrFun (eh70.1 35 (by decide)) 3 : h70 35 3 = h69 35 3), (congrFun (eh69.1 35 (by decide)) 3 : h69 35 3 = h66 35 3), (by rw [eh66]; rfl : h66 35 3 = 1)] at eh74
        rw [(by rw [eh72]; rfl : h72 36 = h70 36), (eh70.1 36 (by decide) : h70 36 = h69 36), (eh69.1 36 (by decide) : h69 36 = h66 36), (by rw [eh66]; rfl : h66 36 = h2 36), (by rw [eh2]; rfl : h2 36 = hi 36)] at eh74
        have eph74 := eh74.2.2
        replace eh74 := And.intro eh74.1 (And.intro eh74.2.1 trivial)
        obtain ⟨tbh74, eph74⟩ := eph74
        rcases eph74 with ⟨kh74, ph74, th74, hrh74⟩ | ⟨ch74, gh74, th74, gch74, geh74, gdh74, ⟨g27h74, g28h74⟩, hrh74⟩
        · have hra := hrh74
          refine z_pop (pc := 109) dX4_read_109 rfl ?_
          refine z_aload_n (pc := 110) (x := 36) dX4_read_110 rfl 0 rfl ?_
          refine z_getR (pc := 111) (pl := 35) (f := 0) (ci := 4) (C := RX4) (T := TX4) (N := 5) hu_X4 (by decide) rfl rfl (by decide) rfl (List.mem_cons_of_mem _ (iw4 _ (List.mem_of_getElem? (i := 19) rfl))) rfl dX4_read_111 ?_
          refine z_getstE (pc := 114) (i := 0) (z := 0) (by decide) rfl (List.mem_cons_of_mem _ (iw31 _ (List.mem_of_getElem? (i := 22) rfl))) dX4_read_114 ?_
          refine z_callV (pc := 117) (kc := kX6_expect) (n := 1) (pl := 29) (ci := 5) (C := RX6) (As := [AR (ec 0)]) (stk := []) ct_X6_expect_TF (gdV rfl rfl (iw32 _ (List.mem_of_getElem? (i := 2) rfl)) (iw24 _ (List.mem_of_getElem? (i := 12) rfl)) (iw24 _ (List.mem_of_getElem? (i := 13) rfl)) (iw2 _ (List.mem_of_getElem? (i := 4) rfl)) (iw24 _ (List.mem_of_getElem? (i := 14) rfl))) rfl ⟨rfl, rfl⟩ (by decide +kernel) ⟨by decide, by decide⟩ (by decide) rfl rfl dX4_read_117 rfl rfl (Nat.le_of_ble_eq_true rfl) ?_
          refine ⟨_, S, P, V, m, kh74, ph74, rfl, ⟨th74, by decide, by decide⟩, fun h75 eh75 => ?_⟩
          have frh75 : Fr [29, 35] hi h75 := (Fr.call frh74 eh75.1 (by decide))
          have ff29h75 : FF 29 [6, 7, 8] hi h75 := FF.call ff29h74 (eh75.2.1) (by decide)
          have ff35h75 : FF 35 [2, 3, 4] hi h75 := FF.call0 ff35h74 eh75.1 (by decide)
          have eph75 := eh75.2.2
          replace eh75 := And.intro eh75.1 (And.intro eh75.2.1 trivial)
          have th75 := eph75
          refine z_vret (pc := 120) rfl dX4_read_120 ?_
          exact hQ h75 ⟨frh75, ff29h75, ff35h75, by first | (exfalso; omega) | exact Or.inl ⟨_, _, th75, qF_0 (by omega)⟩ | exact Or.inl ⟨_, _, th75, qF_1 (by omega) (by omega)⟩ | exact Or.inl ⟨_, _, th75, (qF_2 (by omega) (by omega) (ohF_1 (by omega)).symm).trans hra⟩ | exact Or.inl ⟨_, _, th75, ((qF_2 (by omega) (by omega) (ohF_1 (by omega)).symm).trans hra).trans (r_fin z27 z28 (by omega))⟩ | exact Or.inr ⟨_, th75, ((qF_2 (by omega) (by omega) (ohF_1 (by omega)).symm).trans hra).trans (r_end (by omega)), by rw [ohF_1 (by omega)]; exact gda, by omega, by rw [(by rw [(congrFun (eh75.1 35 (by decide)) 2 : h75 35 2 = h74 35 2), (congrFun (eh74.1 35 (by decide)) 2 : h74 35 2 = h72 35 2), (by rw [eh72]; rfl : h72 35 2 = h70 35 2), (congrFun (eh70.1 35 (by decide)) 2 : h70 35 2 = h69 35 2), (congrFun (eh69.1 35 (by decide)) 2 : h69 35 2 = h66 35 2), (by rw [eh66]; rfl : h66 35 2 = h2 35 2), (by rw [eh2]; rfl : h2 35 2 = v1)] : h75 35 2 = v1)]; omega, by rw [(by rw [(congrFun (eh75.1 35 (by decide)) 3 : h75 35 3 = h74 35 3), (congrFun (eh74.1 35 (by decide)) 3 : h74 35 3 = h72 35 3), (by rw [eh72]; rfl : h72 35 3 = h70 35 3), (congrFun (eh70.1 35 (by decide)) 3 : h70 35 3 = h69 35 3), (congrFun (eh69.1 35 (by decide)) 3 : h69 35 3 = h66 35 3), (by rw [eh66]; rfl : h66 35 3 = 1)] : h75 35 3 = 1), ohF_1 (by omega)], by rw [(by rw [(congrFun (eh75.1 35 (by decide)) 4 : h75 35 4 = h74 35 4), (congrFun (eh74.1 35 (by decide)) 4 : h74 35 4 = h72 35 4), (by rw [eh72]; rfl : h72 35 4 = v71)] : h75 35 4 = v71)]; omega⟩ | exact Or.inl ⟨_, _, th75, (qF_2 (by omega) (by omega) (ohF_0 (by omega)).symm).trans hra⟩ | exact Or.inl ⟨_, _, th75, ((qF_2 (by omega) (by omega) (ohF_0 (by omega)).symm).trans hra).trans (r_fin z27 z28 (by omega))⟩ | exact Or.inr ⟨_, th75, ((qF_2 (by omega) (by omega) (ohF_0 (by omega)).symm).trans hra).trans (r_end (by omega)), by rw [ohF_0 (by omega)]; exact gda, by omega, by rw [(by rw [(congrFun (eh75.1 35 (by decide)) 2 : h75 35 2 = h74 35 2), (congrFun (eh74.1 35 (by decide)) 2 : h74 35 2 = h72 35 2), (by rw [eh72]; rfl : h72 35 2 = h70 35 2), (congrFun (eh70.1 35 (by decide)) 2 : h70 35 2 = h69 35 2), (congrFun (eh69.1 35 (by decide)) 2 : h69 35 2 = h66 35 2), (by rw [eh66]; rfl : h66 35 2 = h2 35 2), (by rw [eh2]; rfl : h2 35 2 = v1)] : h75 35 2 = v1)]; omega, by rw [(by rw [(congrFun (eh75.1 35 (by decide)) 3 : h75 35 3 = h74 35 3), (congrFun (eh74.1 35 (by decide)) 3 : h74 35 3 = h72 35 3), (by rw [eh72]; rfl : h72 35 3 = h70 35 3), (congrFun (eh70.1 35 (by decide)) 3 : h70 35 3 = h69 35 3), (congrFun (eh69.1 35 (by decide)) 3 : h69 35 3 = h66 35 3), (by rw [eh66]; rfl : h66 35 3 = 1)] : h75 35 3 = 1), ohF_0 (by omega)], by rw [(by rw [(congrFun (eh75.1 35 (by decide)) 4 : h75 35 4 = h74 35 4), (congrFun (eh74.1 35 (by decide)) 4 : h74 35 4 = h72 35 4), (by rw [eh72]; rfl : h72 35 4 = v71)] : h75 35 4 = v71)]; omega⟩⟩
        · have cmh74 := th74.2.1
          have hra := hrh74
          have gda := gdh74
          have z27 := g27h74
          have z28 := g28h74
          refine z_pop (pc := 109) dX4_read_109 rfl ?_
          refine z_aload_n (pc := 110) (x := 36) dX4_read_110 rfl 0 rfl ?_
          refine z_getR (pc := 111) (pl := 35) (f := 0) (ci := 4) (C := RX4) (T := TX4) (N := 5) hu_X4 (by decide) rfl rfl (by decide) rfl (List.mem_cons_of_mem _ (iw4 _ (List.mem_of_getElem? (i := 19) rfl))) rfl dX4_read_111 ?_
          refine z_getstE (pc := 114) (i := 0) (z := 0) (by decide) rfl (List.mem_cons_of_mem _ (iw31 _ (List.mem_of_getElem? (i := 22) rfl))) dX4_read_114 ?_
          refine z_callV (pc := 117) (kc := kX6_expect) (n := 1) (pl := 29) (ci := 5) (C := RX6) (As := [AR (ec 0)]) (stk := []) ct_X6_expect_0 (gdV rfl rfl (iw32 _ (List.mem_of_getElem? (i := 2) rfl)) (iw24 _ (List.mem_of_getElem? (i := 12) rfl)) (iw24 _ (List.mem_of_getElem? (i := 13) rfl)) (iw2 _ (List.mem_of_getElem? (i := 4) rfl)) (iw24 _ (List.mem_of_getElem? (i := 14) rfl))) rfl ⟨rfl, rfl⟩ (by decide +kernel) ⟨by decide, by decide⟩ (by decide) rfl rfl dX4_read_117 rfl rfl (Nat.le_of_ble_eq_true rfl) ?_
          refine ⟨_, S, P, V, m, ch74, rfl, ⟨th74, rfl⟩, fun h76 eh76 => ?_⟩
          have frh76 : Fr [29, 35] hi h76 := (Fr.call frh74 eh76.1 (by decide))
          have ff29h76 : FF 29 [6, 7, 8] hi h76 := FF.call ff29h74 (eh76.2.1) (by decide)
          have ff35h76 : FF 35 [2, 3, 4] hi h76 := FF.call0 ff35h74 eh76.1 (by decide)
          have eph76 := eh76.2.2
          replace eh76 := And.intro eh76.1 (And.intro eh76.2.1 trivial)
          rcases eph76 with ⟨sh76, th76⟩ | ⟨sh76, th76⟩
          · skip
            refine z_vret (pc := 120) rfl dX4_read_120 ?_
            exact hQ h76 ⟨frh76, ff29h76, ff35h76, by first | (exfalso; omega) | exact Or.inl ⟨_, _, th76, qF_0 (by omega)⟩ | exact Or.inl ⟨_, _, th76, qF_1 (by omega) (by omega)⟩ | exact Or.inl ⟨_, _, th76, (qF_2 (by omega) (by omega) (ohF_1 (by omega)).symm).trans hra⟩ | exact Or.inl ⟨_, _, th76, ((qF_2 (by omega) (by omega) (ohF_1 (by omega)).symm).trans hra).trans (r_fin z27 z28 (by omega))⟩ | exact Or.inr ⟨_, th76, ((qF_2 (by omega) (by omega) (ohF_1 (by omega)).symm).trans hra).trans (r_end (by omega)), by rw [ohF_1 (by omega)]; exact gda, by omega, by rw [(by rw [(congrFun (eh76.1 35 (by decide)) 2 : h76 35 2 = h74 35 2), (congrFun (eh74.1 35 (by decide)) 2 : h74 35 2 = h72 35 2), (by rw [eh72]; rfl : h72 35 2 = h70 35 2), (congrFun (eh70.1 35 (by decide)) 2 : h70 35 2 = h69 35 2), (congrFun (eh69.1 35 (by decide)) 2 : h69 35 2 = h66 35 2), (by rw [eh66]; rfl : h66 35 2 = h2 35 2), (by rw [eh2]; rfl : h2 35 2 = v1)] : h76 35 2 = v1)]; omega, by rw [(by rw [(congrFun (eh76.1 35 (by decide)) 3 : h76 35 3 = h74 35 3), (congrFun (eh74.1 35 (by decide)) 3 : h74 35 3 = h72 35 3), (by rw [eh72]; rfl : h72 35 3 = h70 35 3), (congrFun (eh70.1 35 (by decide)) 3 : h70 35 3 = h69 35 3), (congrFun (eh69.1 35 (by decide)) 3 : h69 35 3 = h66 35 3), (by rw [eh66]; rfl : h66 35 3 = 1)] : h76 35 3 = 1), ohF_1 (by omega)], by rw [(by rw [(congrFun (eh76.1 35 (by decide)) 4 : h76 35 4 = h74 35 4), (congrFun (eh74.1 35 (by decide)) 4 : h74 35 4 = h72 35 4), (by rw [eh72]; rfl : h72 35 4 = v71)] : h76 35 4 = v71)]; omega⟩ | exact Or.inl ⟨_, _, th76, (qF_2 (by omega) (by omega) (ohF_0 (by omega)).symm).trans hra⟩ | exact Or.inl ⟨_, _, th76, ((qF_2 (by omega) (by omega) (ohF_0 (by omega)).symm).trans hra).trans (r_fin z27 z28 (by omega))⟩ | exact Or.inr ⟨_, th76, ((qF_2 (by omega) (by omega) (ohF_0 (by omega)).symm).trans hra).trans (r_end (by omega)), by rw [ohF_0 (by omega)]; exact gda, by omega, by rw [(by rw [(congrFun (eh76.1 35 (by decide)) 2 : h76 35 2 = h74 35 2), (congrFun (eh74.1 35 (by decide)) 2 : h74 35 2 = h72 35 2), (by rw [eh72]; rfl : h72 35 2 = h70 35 2), (congrFun (eh70.1 35 (by decide)) 2 : h70 35 2 = h69 35 2), (congrFun (eh69.1 35 (by decide)) 2 : h69 35 2 = h66 35 2), (by rw [eh66]; rfl : h66 35 2 = h2 35 2), (by rw [eh2]; rfl : h2 35 2 = v1)] : h76 35 2 = v1)]; omega, by rw [(by rw [(congrFun (eh76.1 35 (by decide)) 3 : h76 35 3 = h74 35 3), (congrFun (eh74.1 35 (by decide)) 3 : h74 35 3 = h72 35 3), (by rw [eh72]; rfl : h72 35 3 = h70 35 3), (congrFun (eh70.1 35 (by decide)) 3 : h70 35 3 = h69 35 3), (congrFun (eh69.1 35 (by decide)) 3 : h69 35 3 = h66 35 3), (by rw [eh66]; rfl : h66 35 3 = 1)] : h76 35 3 = 1), ohF_0 (by omega)], by rw [(by rw [(congrFun (eh76.1 35 (by decide)) 4 : h76 35 4 = h74 35 4), (congrFun (eh74.1 35 (by decide)) 4 : h74 35 4 = h72 35 4), (by rw [eh72]; rfl : h72 35 4 = v71)] : h76 35 4 = v71)]; omega⟩⟩
          · skip
            refine z_vret (pc := 120) rfl dX4_read_120 ?_
            exact hQ h76 ⟨frh76, ff29h76, ff35h76, by first | (exfalso; omega) | exact Or.inl ⟨_, _, th76, qF_0 (by omega)⟩ | exact Or.inl ⟨_, _, th76, qF_1 (by omega) (by omega)⟩ | exact Or.inl ⟨_, _, th76, (qF_2 (by omega) (by omega) (ohF_1 (by omega)).symm).trans hra⟩ | exact Or.inl ⟨_, _, th76, ((qF_2 (by omega) (by omega) (ohF_1 (by omega)).symm).trans hra).trans (r_fin z27 z28 (by omega))⟩ | exact Or.inr ⟨_, th76, ((qF_2 (by omega) (by omega) (ohF_1 (by omega)).symm).trans hra).trans (r_end (by omega)), by rw [ohF_1 (by omega)]; exact gda, by omega, by rw [(by rw [(congrFun (eh76.1 35 (by decide)) 2 : h76 35 2 = h74 35 2), (congrFun (eh74.1 35 (by decide)) 2 : h74 35 2 = h72 35 2), (by rw [eh72]; rfl : h72 35 2 = h70 35 2), (congrFun (eh70.1 35 (by decide)) 2 : h70 35 2 = h69 35 2), (congrFun (eh69.1 35 (by decide)) 2 : h69 35 2 = h66 35 2), (by rw [eh66]; rfl : h66 35 2 = h2 35 2), (by rw [eh2]; rfl : h2 35 2 = v1)] : h76 35 2 = v1)]; omega, by rw [(by rw [(congrFun (eh76.1 35 (by decide)) 3 : h76 35 3 = h74 35 3), (congrFun (eh74.1 35 (by decide)) 3 : h74 35 3 = h72 35 3), (by rw [eh72]; rfl : h72 35 3 = h70 35 3), (congrFun (eh70.1 35 (by decide)) 3 : h70 35 3 = h69 35 3), (congrFun (eh69.1 35 (by decide)) 3 : h69 35 3 = h66 35 3), (by rw [eh66]; rfl : h66 35 3 = 1)] : h76 35 3 = 1), ohF_1 (by omega)], by rw [(by rw [(congrFun (eh76.1 35 (by decide)) 4 : h76 35 4 = h74 35 4), (congrFun (eh74.1 35 (by decide)) 4 : h74 35 4 = h72 35 4), (by rw [eh72]; rfl : h72 35 4 = v71)] : h76 35 4 = v71)]; omega⟩ | exact Or.inl ⟨_, _, th76, (qF_2 (by omega) (by omega) (ohF_0 (by omega)).symm).trans hra⟩ | exact Or.inl ⟨_, _, th76, ((qF_2 (by omega) (by omega) (ohF_0 (by omega)).symm).trans hra).trans (r_fin z27 z28 (by omega))⟩ | exact Or.inr ⟨_, th76, ((qF_2 (by omega) (by omega) (ohF_0 (by omega)).symm).trans hra).trans (r_end (by omega)), by rw [ohF_0 (by omega)]; exact gda, by omega, by rw [(by rw [(congrFun (eh76.1 35 (by decide)) 2 : h76 35 2 = h74 35 2), (congrFun (eh74.1 35 (by decide)) 2 : h74 35 2 = h72 35 2), (by rw [eh72]; rfl : h72 35 2 = h70 35 2), (congrFun (eh70.1 35 (by decide)) 2 : h70 35 2 = h69 35 2), (congrFun (eh69.1 35 (by decide)) 2 : h69 35 2 = h66 35 2), (by rw [eh66]; rfl : h66 35 2 = h2 35 2), (by rw [eh2]; rfl : h2 35 2 = v1)] : h76 35 2 = v1)]; omega, by rw [(by rw [(congrFun (eh76.1 35 (by decide)) 3 : h76 35 3 = h74 35 3), (congrFun (eh74.1 35 (by decide)) 3 : h74 35 3 = h72 35 3), (by rw [eh72]; rfl : h72 35 3 = h70 35 3), (congrFun (eh70.1 35 (by decide)) 3 : h70 35 3 = h69 35 3), (congrFun (eh69.1 35 (by decide)) 3 : h69 35 3 = h66 35 3), (by rw [eh66]; rfl : h66 35 3 = 1)] : h76 35 3 = 1), ohF_0 (by omega)], by rw [(by rw [(congrFun (eh76.1 35 (by decide)) 4 : h76 35 4 = h74 35 4), (congrFun (eh74.1 35 (by decide)) 4 : h74 35 4 = h72 35 4), (by rw [eh72]; rfl : h72 35 4 = v71)] : h76 35 4 = v71)]; omega⟩⟩
      · skip
        refine z_aload_n (pc := 93) (x := 36) dX4_read_93 rfl 0 rfl ?_
        refine z_aload_n (pc := 94) (x := 36) dX4_read_94 rfl 0 rfl ?_
        refine z_getR (pc := 95) (pl := 35) (f := 0) (ci := 4) (C := RX4) (T := TX4) (N := 5) hu_X4 (by decide) rfl rfl (by decide) rfl (List.mem_cons_of_mem _ (iw4 _ (List.mem_of_getElem? (i := 19) rfl))) rfl dX4_read_95 ?_
        refine z_callV (pc := 98) (kc := kX6_cursor) (n := 0) (pl := 29) (ci := 5) (C := RX6) (As := []) (stk := [AR 36]) ct_X6_cursor_TF (gdV rfl rfl (iw32 _ (List.mem_of_getElem? (i := 3) rfl)) (iw32 _ (List.mem_of_getElem? (i := 4) rfl)) (iw32 _ (List.mem_of_getElem? (i := 5) rfl)) (iw2 _ (List.mem_of_getElem? (i := 4) rfl)) (iw32 _ (List.mem_of_getElem? (i := 6) rfl))) rfl ⟨rfl, rfl⟩ (by decide +kernel) ⟨by decide, by decide⟩ (by decide) rfl rfl dX4_read_98 rfl rfl (Nat.le_of_ble_eq_true rfl) ?_
        refine ⟨S, P, V, m, 1, (P (0 + 1)), rfl, th70, fun v77 ev77 => ?_⟩
        refine z_putI (pc := 101) (pl := 35) (f := 4) (ci := 4) (C := RX4) (T := TX4) (N := 5) hu_X4 tyX4_ok nmX4 (by decide) rfl rfl (by decide) rfl (List.mem_cons_of_mem _ (iw4 _ (List.mem_of_getElem? (i := 18) rfl))) rfl rfl (ty := .int) (by decide +kernel) rfl rfl ⟨by omega, by omega⟩ dX4_read_101 (fun h78 eh78 => ?_)
        have frh78 : Fr [29, 35] hi h78 := (Fr.put frh70 eh78 (by decide))
        have ff29h78 : FF 29 [6, 7, 8] hi h78 := FF.oth ff29h70 eh78 (by decide)
        have ff35h78 : FF 35 [2, 3, 4] hi h78 := FF.put ff35h70 eh78 (by decide)
        have th78 : TF h78 S P V m 1 (P (0 + 1)) := TF.oth th70 eh78 (by decide)
        refine z_aload_n (pc := 104) (x := 36) dX4_read_104 rfl 0 rfl ?_
        refine z_iconst (pc := 105) (v := 0) dX4_read_105 rfl ?_
        refine z_callV (pc := 106) (kc := (kX4_condHolds 5)) (n := 1) (pl := 35) (ci := 4) (C := RX4) (As := [AI 0]) (stk := []) ct_X4_condHolds_TF (gdV rfl rfl (iw32 _ (List.mem_of_getElem? (i := 7) rfl)) (iw32 _ (List.mem_of_getElem? (i := 8) rfl)) (iw32 _ (List.mem_of_getElem? (i := 9) rfl)) (iw2 _ (List.mem_of_getElem? (i := 12) rfl)) (iw32 _ (List.mem_of_getElem? (i := 10) rfl))) rfl ⟨rfl, rfl⟩ (by decide +kernel) ⟨by decide, by decide⟩ (by decide) rfl rfl dX4_read_106 rfl rfl (Nat.le_of_ble_eq_true rfl) ?_
        refine ⟨_, S, P, V, m, 1, (P (0 + 1)), rfl, ⟨th78, trivial⟩, fun v79 h80 eh80 => ?_⟩
        have frh80 : Fr [29, 35] hi h80 := (Fr.call frh78 eh80.1 (by decide))
        have ff29h80 : FF 29 [6, 7, 8] hi h80 := FF.call ff29h78 (eh80.2.1) (by decide)
        have ff35h80 : FF 35 [2, 3, 4] hi h80 := FF.call0 ff35h78 eh80.1 (by decide)
        have eph80 := eh80.2.2
        replace eh80 := And.intro eh80.1 (And.intro eh80.2.1 trivial)
        obtain ⟨tbh80, th80⟩ := eph80
        refine z_pop (pc := 109) dX4_read_109 rfl ?_
        refine z_aload_n (pc := 110) (x := 36) dX4_read_110 rfl 0 rfl ?_
        refine z_getR (pc := 111) (pl := 35) (f := 0) (ci := 4) (C := RX4) (T := TX4) (N := 5) hu_X4 (by decide) rfl rfl (by decide) rfl (List.mem_cons_of_mem _ (iw4 _ (List.mem_of_getElem? (i := 19) rfl))) rfl dX4_read_111 ?_
        refine z_getstE (pc := 114) (i := 0) (z := 0) (by decide) rfl (List.mem_cons_of_mem _ (iw31 _ (List.mem_of_getElem? (i := 22) rfl))) dX4_read_114 ?_
        refine z_callV (pc := 117) (kc := kX6_expect) (n := 1) (pl := 29) (ci := 5) (C := RX6) (As := [AR (ec 0)]) (stk := []) ct_X6_expect_TF (gdV rfl rfl (iw32 _ (List.mem_of_getElem? (i := 2) rfl)) (iw24 _ (List.mem_of_getElem? (i := 12) rfl)) (iw24 _ (List.mem_of_getElem? (i := 13) rfl)) (iw2 _ (List.mem_of_getElem? (i := 4) rfl)) (iw24 _ (List.mem_of_getElem? (i := 14) rfl))) rfl ⟨rfl, rfl⟩ (by decide +kernel) ⟨by decide, by decide⟩ (by decide) rfl rfl dX4_read_117 rfl rfl (Nat.le_of_ble_eq_true rfl) ?_
        refine ⟨_, S, P, V, m, 1, (P (0 + 1)), rfl, ⟨th80, by decide, by decide⟩, fun h81 eh81 => ?_⟩
        have frh81 : Fr [29, 35] hi h81 := (Fr.call frh80 eh81.1 (by decide))
        have ff29h81 : FF 29 [6, 7, 8] hi h81 := FF.call ff29h80 (eh81.2.1) (by decide)
        have ff35h81 : FF 35 [2, 3, 4] hi h81 := FF.call0 ff35h80 eh81.1 (by decide)
        have eph81 := eh81.2.2
        replace eh81 := And.intro eh81.1 (And.intro eh81.2.1 trivial)
        have th81 := eph81
        refine z_vret (pc := 120) rfl dX4_read_120 ?_
        exact hQ h81 ⟨frh81, ff29h81, ff35h81, by first | (exfalso; omega) | exact Or.inl ⟨_, _, th81, qF_0 (by omega)⟩ | exact Or.inl ⟨_, _, th81, qF_1 (by omega) (by omega)⟩ | exact Or.inl ⟨_, _, th81, (qF_2 (by omega) (by omega) (ohF_1 (by omega)).symm).trans hra⟩ | exact Or.inl ⟨_, _, th81, ((qF_2 (by omega) (by omega) (ohF_1 (by omega)).symm).trans hra).trans (r_fin z27 z28 (by omega))⟩ | exact Or.inr ⟨_, th81, ((qF_2 (by omega) (by omega) (ohF_1 (by omega)).symm).trans hra).trans (r_end (by omega)), by rw [ohF_1 (by omega)]; exact gda, by omega, by rw [(by rw [(congrFun (eh81.1 35 (by decide)) 2 : h81 35 2 = h80 35 2), (congrFun (eh80.1 35 (by decide)) 2 : h80 35 2 = h78 35 2), (by rw [eh78]; rfl : h78 35 2 = h70 35 2), (congrFun (eh70.1 35 (by decide)) 2 : h70 35 2 = h69 35 2), (congrFun (eh69.1 35 (by decide)) 2 : h69 35 2 = h66 35 2), (by rw [eh66]; rfl : h66 35 2 = h2 35 2), (by rw [eh2]; rfl : h2 35 2 = v1)] : h81 35 2 = v1)]; omega, by rw [(by rw [(congrFun (eh81.1 35 (by decide)) 3 : h81 35 3 = h80 35 3), (congrFun (eh80.1 35 (by decide)) 3 : h80 35 3 = h78 35 3), (by rw [eh78]; rfl : h78 35 3 = h70 35 3), (congrFun (eh70.1 35 (by decide)) 3 : h70 35 3 = h69 35 3), (congrFun (eh69.1 35 (by decide)) 3 : h69 35 3 = h66 35 3), (by rw [eh66]; rfl : h66 35 3 = 1)] : h81 35 3 = 1), ohF_1 (by omega)], by rw [(by rw [(congrFun (eh81.1 35 (by decide)) 4 : h81 35 4 = h80 35 4), (congrFun (eh80.1 35 (by decide)) 4 : h80 35 4 = h78 35 4), (by rw [eh78]; rfl : h78 35 4 = v77)] : h81 35 4 = v77)]; omega⟩ | exact Or.inl ⟨_, _, th81, (qF_2 (by omega) (by omega) (ohF_0 (by omega)).symm).trans hra⟩ | exact Or.inl ⟨_, _, th81, ((qF_2 (by omega) (by omega) (ohF_0 (by omega)).symm).trans hra).trans (r_fin z27 z28 (by omega))⟩ | exact Or.inr ⟨_, th81, ((qF_2 (by omega) (by omega) (ohF_0 (by omega)).symm).trans hra).trans (r_end (by omega)), by rw [ohF_0 (by omega)]; exact gda, by omega, by rw [(by rw [(congrFun (eh81.1 35 (by decide)) 2 : h81 35 2 = h80 35 2), (congrFun (eh80.1 35 (by decide)) 2 : h80 35 2 = h78 35 2), (by rw [eh78]; rfl : h78 35 2 = h70 35 2), (congrFun (eh70.1 35 (by decide)) 2 : h70 35 2 = h69 35 2), (congrFun (eh69.1 35 (by decide)) 2 : h69 35 2 = h66 35 2), (by rw [eh66]; rfl : h66 35 2 = h2 35 2), (by rw [eh2]; rfl : h2 35 2 = v1)] : h81 35 2 = v1)]; omega, by rw [(by rw [(congrFun (eh81.1 35 (by decide)) 3 : h81 35 3 = h80 35 3), (congrFun (eh80.1 35 (by decide)) 3 : h80 35 3 = h78 35 3), (by rw [eh78]; rfl : h78 35 3 = h70 35 3), (congrFun (eh70.1 35 (by decide)) 3 : h70 35 3 = h69 35 3), (congrFun (eh69.1 35 (by decide)) 3 : h69 35 3 = h66 35 3), (by rw [eh66]; rfl : h66 35 3 = 1)] : h81 35 3 = 1), ohF_0 (by omega)], by rw [(by rw [(congrFun (eh81.1 35 (by decide)) 4 : h81 35 4 = h80 35 4), (congrFun (eh80.1 35 (by decide)) 4 : h80 35 4 = h78 35 4), (by rw [eh78]; rfl : h78 35 4 = v77)] : h81 35 4 = v77)]; omega⟩⟩

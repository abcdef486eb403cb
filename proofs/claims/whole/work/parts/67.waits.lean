theorem it_top {hi : HI} {W : List Int} {v i : Int} (h : WM hi W) (hn : 0 < hi 39 26) (hv : v = hi 50 i.toNat) (hi' : i = hi 39 26 - 1) : topW W = v := by
  rcases h.top with ⟨q1, q2⟩ | ⟨q1, W2, q2⟩
  · omega
  · rw [q2, hv, hi']; rfl
theorem it_nil {hi : HI} {W : List Int} (h : WM hi W) (hn : hi 39 26 ≤ 0) : topW W = 0 := by
  rcases h.top with ⟨q1, q2⟩ | ⟨q1, W2, q2⟩
  · rw [q2]; rfl
  · omega
theorem WM.hd {hi : HI} {W : List Int} {x : Int} (h : WM hi (x :: W)) : hi 50 (hi 39 26 - 1).toNat = x ∧ 0 < hi 39 26 := by
  rcases h.top with ⟨q1, q2⟩ | ⟨q1, W2, q2⟩
  · cases q2
  · exact ⟨(List.cons.inj q2).1.symm, q1⟩
theorem okX_7m {g : Ex} {s : List Ex} : okX (1000 * 7) (g :: s) := by rw [show (1000 * 7 : Int) = 7000 by decide]; exact okX_7
theorem apC_7m {g : Ex} {s : List Ex} : apC (1000 * 7) (g :: s) = nt g :: s := by rw [show (1000 * 7 : Int) = 7000 by decide]; exact apC_7
section QSS
variable {hi h2 : HI} {S P V st : Nat → Int} {m c : Nat} {oh : Int} {W : List Int} {G : List Ex} {g a b : Ex} {md : Nat}
theorem QS.bds (h : QS hi S P V st m oh md c W G) : (0 ≤ hi 39 24 ∧ 0 ≤ hi 39 26 ∧ hi 39 24 + hi 39 26 ≤ c) ∧ c ≤ m ∧ (m : Int) ≤ 600 ∧ 0 ≤ S c ∧ S c < 41 := by
  obtain ⟨a1, a2, a3, a4, a5, a6⟩ := h
  have r := a1.rg
  have s := a1.1.sg_rg a1.2.1
  exact ⟨⟨a3.1, a2.1, a5⟩, a1.2.1, by omega, s.1, s.2⟩
theorem bc_len {n : Nat} (h : bcW W + n = G.length) (hn : 0 < n) : ∃ g G2, G = g :: G2 := by
  cases G with
  | nil => simp at h; omega
  | cons x y => exact ⟨x, y, rfl⟩
theorem bc_len2 {n : Nat} (h : bcW W + 1 + n = G.length) (hn : 0 < n) : ∃ b a G2, G = b :: a :: G2 := by
  cases G with
  | nil => simp at h
  | cons x y =>
    cases y with
    | nil => simp at h; omega
    | cons z w => exact ⟨x, z, w, rfl⟩
theorem QS.top7 (h : QS hi S P V st m oh 1 c W G) (ht : topW W = 7) : ∃ W2 g G2, W = 7 :: W2 ∧ G = g :: G2 := by
  obtain ⟨g, G2, e⟩ := bc_len h.2.2.2.2.2.2.2.1 (by decide)
  cases W with
  | nil => exact absurd ht (by show ¬ ((0 : Int) = 7); decide)
  | cons x W2 => have e2 : x = 7 := ht; subst e2; exact ⟨W2, g, G2, rfl, e⟩
theorem bc_8 : bcW (8 :: W) = bcW W + 1 := by show (if (8 : Int) = 8 ∨ (8 : Int) = 9 then 1 else 0) + bcW W = _; rw [if_pos (Or.inl rfl)]; omega
theorem bc_9 : bcW (9 :: W) = bcW W + 1 := by show (if (9 : Int) = 8 ∨ (9 : Int) = 9 then 1 else 0) + bcW W = _; rw [if_pos (Or.inr rfl)]; omega
theorem bc_7 : bcW (7 :: W) = bcW W := by show (if (7 : Int) = 8 ∨ (7 : Int) = 9 then 1 else 0) + bcW W = _; rw [if_neg (by decide)]; omega
theorem bc_10 : bcW (10 :: W) = bcW W := by show (if (10 : Int) = 8 ∨ (10 : Int) = 9 then 1 else 0) + bcW W = _; rw [if_neg (by decide)]; omega
theorem QS.top8 (h : QS hi S P V st m oh 1 c W G) (ht : topW W = 8) : ∃ W2 b a G2, W = 8 :: W2 ∧ G = b :: a :: G2 := by
  cases W with
  | nil => exact absurd ht (by show ¬ ((0 : Int) = 8); decide)
  | cons x W2 =>
    have e2 : x = 8 := ht
    subst e2
    have q := h.2.2.2.2.2.2.2.1
    rw [bc_8] at q
    obtain ⟨b, a, G2, e⟩ := bc_len2 q (by decide)
    exact ⟨W2, b, a, G2, rfl, e⟩
theorem QS.top9 (h : QS hi S P V st m oh 1 c W G) (ht : topW W = 9) : ∃ W2 b a G2, W = 9 :: W2 ∧ G = b :: a :: G2 := by
  cases W with
  | nil => exact absurd ht (by show ¬ ((0 : Int) = 9); decide)
  | cons x W2 =>
    have e2 : x = 9 := ht
    subst e2
    have q := h.2.2.2.2.2.2.2.1
    rw [bc_9] at q
    obtain ⟨b, a, G2, e⟩ := bc_len2 q (by decide)
    exact ⟨W2, b, a, G2, rfl, e⟩
theorem QS.top10 (h : QS hi S P V st m oh 1 c W G) (ht : topW W = 10) : ∃ W2, W = 10 :: W2 := by
  cases W with
  | nil => exact absurd ht (by show ¬ ((0 : Int) = 10); decide)
  | cons x W2 => have e2 : x = 10 := ht; subst e2; exact ⟨W2, rfl⟩
theorem QS.tops (h : QS hi S P V st m oh md c W G) (h0 : W ≠ []) : topW W = 7 ∨ topW W = 8 ∨ topW W = 9 ∨ topW W = 10 := by
  cases W with
  | nil => exact absurd rfl h0
  | cons x W2 => exact h.2.2.2.2.2.2.2.2.1.1
theorem qs_not (h : QS hi S P V st m oh 1 c (7 :: W) (g :: G)) (t : TM h2 S P V st m c) (w : WM h2 W) (cm : CM h2 (nt g :: G)) (e27 : h2 39 27 = hi 39 27 - 1) (e24 : h2 39 24 = hi 39 24 + 1) (e26 : h2 39 26 = hi 39 26 - 1) (e15 : h2 39 15 = hi 39 15) (e28 : h2 39 28 = hi 39 28) : QS h2 S P V st m oh 1 c W (nt g :: G) := by
  obtain ⟨a1, a2, a3, a4, a5, a6, a7, a8, a9, a10, a11⟩ := h
  rw [opn_7] at a4
  rw [bc_7] at a8
  refine ⟨t, w, cm, ⟨by omega, by omega⟩, by omega, by omega, fun x hx => ?_, by simpa using a8, a9.2.2.2, by omega, a11⟩
  rcases List.mem_cons.mp hx with q | q
  · rw [q]; exact (a7 g List.mem_cons_self).nt
  · exact a7 x (List.mem_cons_of_mem _ q)
theorem qs_bin {o : Int} (ho : o = 8 ∨ o = 9) (h : QS hi S P V st m oh 1 c (o :: W) (b :: a :: G)) (t : TM h2 S P V st m c) (w : WM h2 W) (cm : CM h2 (bin o a b :: G)) (e27 : h2 39 27 = hi 39 27) (e24 : h2 39 24 = hi 39 24 + 1) (e26 : h2 39 26 = hi 39 26 - 1) (e15 : h2 39 15 = hi 39 15) (e28 : h2 39 28 = hi 39 28) : QS h2 S P V st m oh 1 c W (bin o a b :: G) := by
  obtain ⟨a1, a2, a3, a4, a5, a6, a7, a8, a9, a10, a11⟩ := h
  have o4 : opn (o :: W) = opn W := by rcases ho with z | z <;> subst z; exact opn_8 W; exact opn_9 W
  have o8 : bcW (o :: W) = bcW W + 1 := by rcases ho with z | z <;> subst z; exact bc_8; exact bc_9
  rw [o4] at a4
  rw [o8] at a8
  refine ⟨t, w, cm, ⟨by omega, by omega⟩, by omega, by omega, fun x hx => ?_, by simp at a8 ⊢; omega, a9.2.2.2, by omega, a11⟩
  rcases List.mem_cons.mp hx with q | q
  · rw [q]; exact QG.bin (a7 a (List.mem_cons_of_mem _ List.mem_cons_self)).2 (a7 b List.mem_cons_self).2 (by omega)
  · exact a7 x (List.mem_cons_of_mem _ (List.mem_cons_of_mem _ q))
theorem qs_pop (h : QS hi S P V st m oh 1 c (10 :: W) G) (t : TM h2 S P V st m (c + 1)) (w : WM h2 W) (cm : CM h2 G) (e27 : h2 39 27 = hi 39 27 - 1) (e24 : h2 39 24 = hi 39 24) (e26 : h2 39 26 = hi 39 26 - 1) (e15 : h2 39 15 = hi 39 15) (e28 : h2 39 28 = hi 39 28) : QS h2 S P V st m oh 1 (c + 1) W G := by
  obtain ⟨a1, a2, a3, a4, a5, a6, a7, a8, a9, a10, a11⟩ := h
  rw [opn_10] at a4
  rw [bc_10] at a8
  exact ⟨t, w, cm, ⟨by omega, by omega⟩, by omega, by omega, a7, a8, a9.2.2.2, by omega, a11⟩
theorem qs_open {o : Int} (ho : o = 7 ∨ o = 10) (h : QS hi S P V st m oh 0 c W G) (h5 : opn W < 5) (t : TM h2 S P V st m (c + 1)) (w : WM h2 (o :: W)) (cm : CM h2 G) (e27 : h2 39 27 = hi 39 27 + 1) (e24 : h2 39 24 = hi 39 24) (e26 : h2 39 26 = hi 39 26 + 1) (e15 : h2 39 15 = hi 39 15) (e28 : h2 39 28 = hi 39 28) : QS h2 S P V st m oh 0 (c + 1) (o :: W) G := by
  obtain ⟨a1, a2, a3, a4, a5, a6, a7, a8, a9, a10, a11⟩ := h
  have o4 : opn (o :: W) = opn W + 1 := by rcases ho with z | z <;> subst z; exact opn_7 W; exact opn_10 W
  have o8 : bcW (o :: W) = bcW W := by rcases ho with z | z <;> subst z; exact bc_7; exact bc_10
  exact ⟨t, w, cm, ⟨by omega, by omega⟩, by omega, by omega, a7, by rw [o8]; exact a8, ⟨by omega, fun q => by omega, fun q => by omega, a9⟩, by omega, a11⟩
theorem qs_wait {o : Int} (ho : o = 8 ∨ o = 9) (h : QS hi S P V st m oh 1 c W G) (h7 : topW W ≠ 7) (h8 : topW W ≠ 8) (h9 : o = 9 → topW W ≠ 9) (t : TM h2 S P V st m (c + 1)) (w : WM h2 (o :: W)) (cm : CM h2 G) (e27 : h2 39 27 = hi 39 27) (e24 : h2 39 24 = hi 39 24) (e26 : h2 39 26 = hi 39 26 + 1) (e15 : h2 39 15 = hi 39 15) (e28 : h2 39 28 = hi 39 28) : QS h2 S P V st m oh 0 (c + 1) (o :: W) G := by
  obtain ⟨a1, a2, a3, a4, a5, a6, a7, a8, a9, a10, a11⟩ := h
  have o4 : opn (o :: W) = opn W := by rcases ho with z | z <;> subst z; exact opn_8 W; exact opn_9 W
  have o8 : bcW (o :: W) = bcW W + 1 := by rcases ho with z | z <;> subst z; exact bc_8; exact bc_9
  exact ⟨t, w, cm, ⟨by omega, by omega⟩, by omega, by omega, a7, by rw [o8]; omega, ⟨by omega, fun _ => ⟨h7, h8⟩, fun q => ⟨h7, h8, h9 q⟩, a9⟩, by omega, a11⟩
theorem qs_cmp {c2 : Nat} (h : QS hi S P V st m oh 0 c W G) (qg : QG oh g) (t : TM h2 S P V st m c2) (hc : c < c2 ∧ h2 39 24 - hi 39 24 ≤ c2 - c) (cm : CM h2 (g :: G)) (e50 : h2 50 = hi 50) (e27 : h2 39 27 = hi 39 27) (e26 : h2 39 26 = hi 39 26) (e15 : h2 39 15 = -1) (e28 : h2 39 28 = hi 39 28) : QS h2 S P V st m oh 1 c2 W (g :: G) := by
  obtain ⟨a1, a2, a3, a4, a5, a6, a7, a8, a9, a10, a11⟩ := h
  refine ⟨t, a2.kp e50 e26, cm, ⟨by omega, a4.2⟩, by omega, e15, fun x hx => ?_, by simp; omega, a9, by omega, a11⟩
  rcases List.mem_cons.mp hx with q | q
  · rw [q]; exact qg
  · exact a7 x q
theorem QS.qb (h : QS hi S P V st m oh 1 c W (b :: a :: G)) : QB a ∧ QB b := ⟨(h.2.2.2.2.2.2.1 a (List.mem_cons_of_mem _ List.mem_cons_self)).1, (h.2.2.2.2.2.2.1 b List.mem_cons_self).1⟩
theorem QS.okt (h : QS hi S P V st m oh md c (8 :: W) G) : topW W ≠ 7 ∧ topW W ≠ 8 := h.2.2.2.2.2.2.2.2.1.2.1 rfl
theorem QS.okt9 (h : QS hi S P V st m oh md c (9 :: W) G) : topW W ≠ 7 ∧ topW W ≠ 8 ∧ topW W ≠ 9 := h.2.2.2.2.2.2.2.2.1.2.2.1 rfl
/-- neither an and, an or, a bracket's end, nor the end is there -/
theorem r_badM (h : QS hi S P V st m oh 1 c W G) (h7 : topW W ≠ 7) (h27 : S c ≠ 27) (h28 : S c ≠ 28) (hs : ¬ ((S c = 10 ∧ 10 ∈ W) ∨ (S c = 0 ∧ 10 ∉ W))) : res oh S P V (1, c, W, G) = .inl (1, P c) := by
  by_cases h8 : topW W = 8
  · obtain ⟨W2, b, a, G2, e1, e2⟩ := h.top8 h8
    subst e1; subst e2
    have k := h.okt
    rw [r_and]
    refine r_bad k.1 k.2 h27 h28 (fun z => hs ?_)
    rcases z with z | z
    · exact Or.inl ⟨z.1, List.mem_cons_of_mem _ z.2⟩
    · exact Or.inr ⟨z.1, fun y => z.2 ((List.mem_cons.mp y).resolve_left (by decide))⟩
  · exact r_bad h7 h8 h27 h28 hs
end QSS

abbrev kX8_compared : Kd := (cX8_compared, .code yX8_compared cX8_compared 2 (some .boolean) :: wsL_law0, rmL 5, RX8, (some .boolean), 2)
theorem ct_X8_compared : Ct kX8_compared yX8_compared (fun a hi Q => ∃ S : Nat → Int, ∃ P : Nat → Int, ∃ V : Nat → Int, ∃ st : Nat → Int, ∃ m : Nat, ∃ c : Nat, ∃ G : List Ex, a = [AR 40] ∧ (TM hi S P V st m c ∧ hi 39 15 = -1 ∧ (hi 39 28 = 0 ∨ hi 39 28 = 1) ∧ CM hi G ∧ hi 39 24 ≤ c) ∧ ∀ (v : Int) (h2 : HI), (Fr [39, 49] hi h2 ∧ FF 39 [10, 11, 12, 13, 14, 15, 16, 24] hi h2 ∧ ((v = 1 ∧ ∃ (c2 : Nat) (g : Ex), cmpF (hi 39 28) S P V c = .inr (c2, g) ∧ TM h2 S P V st m c2 ∧ CM h2 (g :: G) ∧ (c < c2 ∧ h2 39 24 - hi 39 24 ≤ c2 - c) ∧ h2 39 15 = -1 ∧ QG (hi 39 28) g) ∨ (v = 0 ∧ ∃ p, cmpF (hi 39 28) S P V c = .inl p ∧ FLK h2 1 p))) → Q (AI v) h2) := by
  refine Ct.of (ws' := _) (by decide +kernel) rfl rfl ?_
  intro a hi Q hT
  obtain ⟨S, P, V, st, m, c, G, rfl, hpre, hQ⟩ := hT
  refine ⟨Nat.le_of_ble_eq_true rfl, ?_⟩
  show Z kX8_compared Q 0 [(0, AR 40)] [] hi
  have t0 := hpre.1
  obtain ⟨f15, ho, cg, b24⟩ := hpre.2
  have c24 := cg.1
  have cm := t0.2.1
  have mb := t0.rg
  refine z_aload_n (pc := 0) (x := 40) dX8_compared_0 rfl 0 rfl ?_
  refine z_callV (pc := 1) (kc := kX8_sumHere) (n := 0) (pl := 39) (ci := 7) (C := RX8) (As := []) (stk := []) ct_X8_sumHere (gdV rfl rfl (iw36 _ (List.mem_of_getElem? (i := 17) rfl)) (iw36 _ (List.mem_of_getElem? (i := 18) rfl)) (iw36 _ (List.mem_of_getElem? (i := 19) rfl)) (iw1 _ (List.mem_of_getElem? (i := 5) rfl)) (iw36 _ (List.mem_of_getElem? (i := 20) rfl))) rfl ⟨rfl, rfl⟩ (by decide +kernel) ⟨by decide, by decide⟩ (by decide) rfl rfl dX8_compared_1 rfl rfl (Nat.le_of_ble_eq_true rfl) ?_
  refine ⟨S, P, V, st, m, c, G, rfl, ⟨t0, by first | assumption | (skip; try rw [(rfl : hi 39 15 = hi 39 15)]; assumption), by skip; try rw [(rfl : hi 39 28 = hi 39 28)]; exact ho, (cg.kp rfl rfl), by skip; try rw [(rfl : hi 39 24 = hi 39 24)]; omega⟩, fun v1 h2 eh2 => ?_⟩
  have frh2 : Fr [39, 49] hi h2 := (Fr.call (Fr.rf) eh2.1 (by decide))
  have ff39h2 : FF 39 [10, 11, 12, 13, 14, 15, 16, 24] hi h2 := FF.call (FF.rf) (eh2.2.1) (by decide)
  refine z_if_ne (pc := 4) (tgt := 9) dX8_compared_4 (by decide) ⟨by omega, by omega⟩ (fun c3 => ?_) (fun c3 => ?_)
  · have eph2 := eh2.2.2
    replace eh2 := And.intro eh2.1 (And.intro eh2.2.1 trivial)
    replace eph2 := eph2.resolve_right (fun q => absurd q.1 (by clear eph2; omega))
    obtain ⟨-, ch2, gh2, gsh2, th2, gch2, gbh2, fh2, gdh2⟩ := eph2
    have gsa := gsh2
    have gcL := gch2
    have gda := gdh2
    have gba := gbh2
    have cm1 := th2.2.1
    have c1p := gch2.1
    refine z_aload_n (pc := 9) (x := 40) dX8_compared_9 rfl 0 rfl ?_
    refine z_bipush (pc := 10) (v := 60) dX8_compared_10 (by decide +kernel) ?_
    refine z_callV (pc := 12) (kc := kX8_isSign) (n := 1) (pl := 39) (ci := 7) (C := RX8) (As := [AI 60]) (stk := []) ct_X8_isSign (gdV rfl rfl (iw30 _ (List.mem_of_getElem? (i := 6) rfl)) (iw30 _ (List.mem_of_getElem? (i := 7) rfl)) (iw30 _ (List.mem_of_getElem? (i := 8) rfl)) (iw1 _ (List.mem_of_getElem? (i := 5) rfl)) (iw30 _ (List.mem_of_getElem? (i := 9) rfl))) rfl ⟨rfl, rfl⟩ (by decide +kernel) ⟨by decide, by decide⟩ (by decide) rfl rfl dX8_compared_12 rfl rfl (Nat.le_of_ble_eq_true rfl) ?_
    refine ⟨_, rfl, by omega, fun v4 ev4 => ?_⟩
    have wv4 := isw ev4 (th2.sg 6 (by decide) (by decide))
    refine z_if_eq (pc := 15) (tgt := 22) dX8_compared_15 (by decide) ⟨by omega, by omega⟩ (fun c5 => ?_) (fun c5 => ?_)
    · refine z_aload_n (pc := 22) (x := 40) dX8_compared_22 rfl 0 rfl ?_
      refine z_bipush (pc := 23) (v := 61) dX8_compared_23 (by decide +kernel) ?_
      refine z_callV (pc := 25) (kc := kX8_isSign) (n := 1) (pl := 39) (ci := 7) (C := RX8) (As := [AI 61]) (stk := []) ct_X8_isSign (gdV rfl rfl (iw30 _ (List.mem_of_getElem? (i := 6) rfl)) (iw30 _ (List.mem_of_getElem? (i := 7) rfl)) (iw30 _ (List.mem_of_getElem? (i := 8) rfl)) (iw1 _ (List.mem_of_getElem? (i := 5) rfl)) (iw30 _ (List.mem_of_getElem? (i := 9) rfl))) rfl ⟨rfl, rfl⟩ (by decide +kernel) ⟨by decide, by decide⟩ (by decide) rfl rfl dX8_compared_25 rfl rfl (Nat.le_of_ble_eq_true rfl) ?_
      refine ⟨_, rfl, by omega, fun v6 ev6 => ?_⟩
      have wv6 := isw ev6 (th2.sg 7 (by decide) (by decide))
      refine z_if_eq (pc := 28) (tgt := 35) dX8_compared_28 (by decide) ⟨by omega, by omega⟩ (fun c7 => ?_) (fun c7 => ?_)
      · refine z_aload_n (pc := 35) (x := 40) dX8_compared_35 rfl 0 rfl ?_
        refine z_bipush (pc := 36) (v := 62) dX8_compared_36 (by decide +kernel) ?_
        refine z_callV (pc := 38) (kc := kX8_isSign) (n := 1) (pl := 39) (ci := 7) (C := RX8) (As := [AI 62]) (stk := []) ct_X8_isSign (gdV rfl rfl (iw30 _ (List.mem_of_getElem? (i := 6) rfl)) (iw30 _ (List.mem_of_getElem? (i := 7) rfl)) (iw30 _ (List.mem_of_getElem? (i := 8) rfl)) (iw1 _ (List.mem_of_getElem? (i := 5) rfl)) (iw30 _ (List.mem_of_getElem? (i := 9) rfl))) rfl ⟨rfl, rfl⟩ (by decide +kernel) ⟨by decide, by decide⟩ (by decide) rfl rfl dX8_compared_38 rfl rfl (Nat.le_of_ble_eq_true rfl) ?_
        refine ⟨_, rfl, by omega, fun v8 ev8 => ?_⟩
        have wv8 := isw ev8 (th2.sg 8 (by decide) (by decide))
        refine z_if_eq (pc := 41) (tgt := 49) dX8_compared_41 (by decide) ⟨by omega, by omega⟩ (fun c9 => ?_) (fun c9 => ?_)
        · refine z_iconst (pc := 49) (v := (-1)) dX8_compared_49 rfl ?_
          refine z_istore_n (pc := 50) (lv' := [(1, AI (-1)), (0, AR 40)]) dX8_compared_50 rfl (by decide) rfl ?_
          refine z_iload_n (pc := 51) dX8_compared_51 rfl 0 rfl ?_
          refine z_iconst (pc := 52) (v := (-1)) dX8_compared_52 rfl ?_
          refine z_icmp_ne (pc := 53) (tgt := 62) dX8_compared_53 (by decide) ⟨by decide, by decide⟩ ⟨by decide, by decide⟩ (fun q => absurd q (by decide)) (fun _ => ?_)
          refine z_aload_n (pc := 56) (x := 40) dX8_compared_56 rfl 1 rfl ?_
          refine z_iconst (pc := 57) (v := 1) dX8_compared_57 rfl ?_
          refine z_callV (pc := 58) (kc := kX8_bad) (n := 1) (pl := 39) (ci := 7) (C := RX8) (As := [AI 1]) (stk := []) ct_X8_bad2 (gdV rfl rfl (iw29 _ (List.mem_of_getElem? (i := 8) rfl)) (iw29 _ (List.mem_of_getElem? (i := 9) rfl)) (iw29 _ (List.mem_of_getElem? (i := 10) rfl)) (iw1 _ (List.mem_of_getElem? (i := 5) rfl)) (iw29 _ (List.mem_of_getElem? (i := 11) rfl))) rfl ⟨rfl, rfl⟩ (by decide +kernel) ⟨by decide, by decide⟩ (by decide) rfl rfl dX8_compared_58 rfl rfl (Nat.le_of_ble_eq_true rfl) ?_
          refine ⟨_, rfl, by omega, fun v10 h11 eh11 => ?_⟩
          have frh11 : Fr [39, 49] hi h11 := (Fr.call frh2 eh11.1 (by decide))
          have ff39h11 : FF 39 [10, 11, 12, 13, 14, 15, 16, 24] hi h11 := FF.call ff39h2 (eh11.2.1) (by decide)
          have th11 : TM h11 S P V st m ch2 := TM.fr th2 eh11.1 eh11.2.1 (by decide) (by decide)
          have xh11 := bad_flk th2 (by first | assumption | (rw [(rfl : h2 39 15 = h2 39 15)]; assumption)) eh11.2.2.2
          refine z_zret (pc := 61) rfl (by omega) dX8_compared_61 ?_
          exact hQ v10 h11 ⟨frh11, ff39h11, by first | exact Or.inr ⟨by omega, _, cmpF_bad1 gsa, xh11⟩ | exact Or.inr ⟨by omega, _, cmpF_bad2 gsa (by omega), xh11⟩ | exact Or.inr ⟨by omega, _, cmpF_bad3 gsa (by omega) gsb, xh11⟩ | exact Or.inl ⟨rfl, _, bin 0 _ _, (cmpF_ok gsa (by omega) gsb).trans (by rw [show S _ - 2 = 0 by omega]), th11, cg4, by omega, by first | assumption | (rw [(rfl : h11 39 15 = h11 39 15)]; assumption), QG.bin gda gdb (by decide)⟩⟩
        · refine z_bipush (pc := 44) (v := 6) dX8_compared_44 (by decide +kernel) ?_
          refine z_goto (pc := 46) (tgt := 50) dX8_compared_46 (by decide) ?_
          refine z_istore_n (pc := 50) (lv' := [(1, AI 6), (0, AR 40)]) dX8_compared_50 rfl (by decide) rfl ?_
          refine z_iload_n (pc := 51) dX8_compared_51 rfl 0 rfl ?_
          refine z_iconst (pc := 52) (v := (-1)) dX8_compared_52 rfl ?_
          refine z_icmp_ne (pc := 53) (tgt := 62) dX8_compared_53 (by decide) ⟨by decide, by decide⟩ ⟨by decide, by decide⟩ (fun _ => ?_) (fun q => absurd q (by decide))
          refine z_aload_n (pc := 62) (x := 40) dX8_compared_62 rfl 1 rfl ?_
          refine z_callV (pc := 63) (kc := kX8_go) (n := 0) (pl := 39) (ci := 7) (C := RX8) (As := []) (stk := []) ct_X8_go2 (gdV rfl rfl (iw27 _ (List.mem_of_getElem? (i := 11) rfl)) (iw27 _ (List.mem_of_getElem? (i := 12) rfl)) (iw27 _ (List.mem_of_getElem? (i := 13) rfl)) (iw1 _ (List.mem_of_getElem? (i := 5) rfl)) (iw27 _ (List.mem_of_getElem? (i := 14) rfl))) rfl ⟨rfl, rfl⟩ (by decide +kernel) ⟨by decide, by decide⟩ (by decide) rfl rfl dX8_compared_63 rfl rfl (Nat.le_of_ble_eq_true rfl) ?_
          refine ⟨S, P, V, st, m, ch2, rfl, ⟨th2, by omega, by omega⟩, fun h12 eh12 => ?_⟩
          have frh12 : Fr [39, 49] hi h12 := (Fr.call frh2 eh12.1 (by decide))
          have ff39h12 : FF 39 [10, 11, 12, 13, 14, 15, 16, 24] hi h12 := FF.call ff39h2 (eh12.2.1) (by decide)
          have th12 : TM h12 S P V st m (ch2 + 1) := eh12.2.2
          refine z_aload_n (pc := 66) (x := 40) dX8_compared_66 rfl 1 rfl ?_
          refine z_callV (pc := 67) (kc := kX8_sumHere) (n := 0) (pl := 39) (ci := 7) (C := RX8) (As := []) (stk := []) ct_X8_sumHere (gdV rfl rfl (iw36 _ (List.mem_of_getElem? (i := 17) rfl)) (iw36 _ (List.mem_of_getElem? (i := 18) rfl)) (iw36 _ (List.mem_of_getElem? (i := 19) rfl)) (iw1 _ (List.mem_of_getElem? (i := 5) rfl)) (iw36 _ (List.mem_of_getElem? (i := 20) rfl))) rfl ⟨rfl, rfl⟩ (by decide +kernel) ⟨by decide, by decide⟩ (by decide) rfl rfl dX8_compared_67 rfl rfl (Nat.le_of_ble_eq_true rfl) ?_
          refine ⟨S, P, V, st, m, ((ch2 + 1)), (gh2 :: G), rfl, ⟨th12, by first | assumption | (rw [(by rw [(eh12.2.1 15 (by decide) : h12 39 15 = h2 39 15)] : h12 39 15 = h2 39 15)]; assumption), by rw [(by rw [(eh12.2.1 28 (by decide) : h12 39 28 = h2 39 28), (eh2.2.1 28 (by decide) : h2 39 28 = hi 39 28)] : h12 39 28 = hi 39 28)]; exact ho, (gcL.kp (by rw [(eh12.1 49 (by decide) : h12 49 = h2 49)]) (by rw [(eh12.2.1 24 (by decide) : h12 39 24 = h2 39 24)])), by rw [(by rw [(eh12.2.1 24 (by decide) : h12 39 24 = h2 39 24)] : h12 39 24 = h2 39 24)]; omega⟩, fun v13 h14 eh14 => ?_⟩
          have frh14 : Fr [39, 49] hi h14 := (Fr.call frh12 eh14.1 (by decide))
          have ff39h14 : FF 39 [10, 11, 12, 13, 14, 15, 16, 24] hi h14 := FF.call ff39h12 (eh14.2.1) (by decide)
          rw [(eh12.2.1 28 (by decide) : h12 39 28 = h2 39 28), (eh2.2.1 28 (by decide) : h2 39 28 = hi 39 28)] at eh14
          rw [(eh12.2.1 24 (by decide) : h12 39 24 = h2 39 24)] at eh14
          refine z_if_ne (pc := 70) (tgt := 75) dX8_compared_70 (by decide) ⟨by omega, by omega⟩ (fun c15 => ?_) (fun c15 => ?_)
          · have eph14 := eh14.2.2
            replace eh14 := And.intro eh14.1 (And.intro eh14.2.1 trivial)
            replace eph14 := eph14.resolve_right (fun q => absurd q.1 (by clear eph14; omega))
            obtain ⟨-, ch14, gh14, gsh14, th14, gch14, gbh14, fh14, gdh14⟩ := eph14
            have gsb := gsh14
            have gcM := gch14
            have gdb := gdh14
            have gbb := gbh14
            have cm2 := th14.2.1
            have c2p := gch14.1
            refine z_aload_n (pc := 75) (x := 40) dX8_compared_75 rfl 1 rfl ?_
            refine z_iload_n (pc := 76) dX8_compared_76 rfl 0 rfl ?_
            refine z_iconst (pc := 77) (v := 0) dX8_compared_77 rfl ?_
            refine z_callV (pc := 78) (kc := kX8_code) (n := 2) (pl := 39) (ci := 7) (C := RX8) (As := [AI 6, AI 0]) (stk := []) ct_X8_code (gdV rfl rfl (iw37 _ (List.mem_of_getElem? (i := 1) rfl)) (iw37 _ (List.mem_of_getElem? (i := 2) rfl)) (iw37 _ (List.mem_of_getElem? (i := 3) rfl)) (iw1 _ (List.mem_of_getElem? (i := 5) rfl)) (iw37 _ (List.mem_of_getElem? (i := 4) rfl))) rfl ⟨rfl, rfl⟩ (by decide +kernel) ⟨by decide, by decide⟩ (by decide) rfl rfl dX8_compared_78 rfl rfl (Nat.le_of_ble_eq_true rfl) ?_
            refine ⟨_, _, rfl, ⟨by omega, by decide, by decide⟩, fun h16 eh16 => ?_⟩
            have frh16 : Fr [39, 49] hi h16 := (Fr.call frh14 eh16.1 (by decide))
            have ff39h16 : FF 39 [10, 11, 12, 13, 14, 15, 16, 24] hi h16 := FF.call ff39h14 (eh16.2.1) (by decide)
            have th16 : TM h16 S P V st m ch14 := TM.fr th14 eh16.1 eh16.2.1 (by decide) (by decide)
            have cg4 := gcM.code (h2 := h16) (x := 1000 * 6) (by rw [eh16.2.2.1]; exact updI_cn rfl (by omega)) (by rw [eh16.2.2.2]) (okX_o (by decide))
            rw [apC_o (by decide)] at cg4
            have w24 := eh16.2.2.2
            refine z_iconst (pc := 81) (v := 1) dX8_compared_81 rfl ?_
            refine z_zret (pc := 82) rfl (by decide) dX8_compared_82 ?_
            exact hQ 1 h16 ⟨frh16, ff39h16, by first | exact Or.inr ⟨by omega, _, cmpF_bad1 gsa, xh16⟩ | exact Or.inr ⟨by omega, _, cmpF_bad2 gsa (by omega), xh16⟩ | exact Or.inr ⟨by omega, _, cmpF_bad3 gsa (by omega) gsb, xh16⟩ | exact Or.inl ⟨rfl, _, bin 6 _ _, (cmpF_ok gsa (by omega) gsb).trans (by rw [show S _ - 2 = 6 by omega]), th16, cg4, by omega, by first | assumption | (rw [(by rw [(eh16.2.1 15 (by decide) : h16 39 15 = h14 39 15)] : h16 39 15 = h14 39 15)]; assumption), QG.bin gda gdb (by decide)⟩⟩
          · have eph14 := eh14.2.2
            replace eh14 := And.intro eh14.1 (And.intro eh14.2.1 trivial)
            replace eph14 := eph14.resolve_left (fun q => absurd q.1 (by clear eph14; omega))
            obtain ⟨-, ph14, gsh14, xh14⟩ := eph14
            have gsb := gsh14
            refine z_iconst (pc := 73) (v := 0) dX8_compared_73 rfl ?_
            refine z_zret (pc := 74) rfl (by decide) dX8_compared_74 ?_
            exact hQ 0 h14 ⟨frh14, ff39h14, by first | exact Or.inr ⟨by omega, _, cmpF_bad1 gsa, xh14⟩ | exact Or.inr ⟨by omega, _, cmpF_bad2 gsa (by omega), xh14⟩ | exact Or.inr ⟨by omega, _, cmpF_bad3 gsa (by omega) gsb, xh14⟩ | exact Or.inl ⟨rfl, _, bin 6 _ _, (cmpF_ok gsa (by omega) gsb).trans (by rw [show S _ - 2 = 6 by omega]), (by assumption), cg4, by omega, by first | assumption | (rw [(rfl : h14 39 15 = h14 39 15)]; assumption), QG.bin gda gdb (by decide)⟩⟩
      · refine z_iconst (pc := 31) (v := 5) dX8_compared_31 rfl ?_
        refine z_goto (pc := 32) (tgt := 50) dX8_compared_32 (by decide) ?_
        refine z_istore_n (pc := 50) (lv' := [(1, AI 5), (0, AR 40)]) dX8_compared_50 rfl (by decide) rfl ?_
        refine z_iload_n (pc := 51) dX8_compared_51 rfl 0 rfl ?_
        refine z_iconst (pc := 52) (v := (-1)) dX8_compared_52 rfl ?_
        refine z_icmp_ne (pc := 53) (tgt := 62) dX8_compared_53 (by decide) ⟨by decide, by decide⟩ ⟨by decide, by decide⟩ (fun _ => ?_) (fun q => absurd q (by decide))
        refine z_aload_n (pc := 62) (x := 40) dX8_compared_62 rfl 1 rfl ?_
        refine z_callV (pc := 63) (kc := kX8_go) (n := 0) (pl := 39) (ci := 7) (C := RX8) (As := []) (stk := []) ct_X8_go2 (gdV rfl rfl (iw27 _ (List.mem_of_getElem? (i := 11) rfl)) (iw27 _ (List.mem_of_getElem? (i := 12) rfl)) (iw27 _ (List.mem_of_getElem? (i := 13) rfl)) (iw1 _ (List.mem_of_getElem? (i := 5) rfl)) (iw27 _ (List.mem_of_getElem? (i := 14) rfl))) rfl ⟨rfl, rfl⟩ (by decide +kernel) ⟨by decide, by decide⟩ (by decide) rfl rfl dX8_compared_63 rfl rfl (Nat.le_of_ble_eq_true rfl) ?_
        refine ⟨S, P, V, st, m, ch2, rfl, ⟨th2, by omega, by omega⟩, fun h17 eh17 => ?_⟩
        have frh17 : Fr [39, 49] hi h17 := (Fr.call frh2 eh17.1 (by decide))
        have ff39h17 : FF 39 [10, 11, 12, 13, 14, 15, 16, 24] hi h17 := FF.call ff39h2 (eh17.2.1) (by decide)
        have th17 : TM h17 S P V st m (ch2 + 1) := eh17.2.2
        refine z_aload_n (pc := 66) (x := 40) dX8_compared_66 rfl 1 rfl ?_
        refine z_callV (pc := 67) (kc := kX8_sumHere) (n := 0) (pl := 39) (ci := 7) (C := RX8) (As := []) (stk := []) ct_X8_sumHere (gdV rfl rfl (iw36 _ (List.mem_of_getElem? (i := 17) rfl)) (iw36 _ (List.mem_of_getElem? (i := 18) rfl)) (iw36 _ (List.mem_of_getElem? (i := 19) rfl)) (iw1 _ (List.mem_of_getElem? (i := 5) rfl)) (iw36 _ (List.mem_of_getElem? (i := 20) rfl))) rfl ⟨rfl, rfl⟩ (by decide +kernel) ⟨by decide, by decide⟩ (by decide) rfl rfl dX8_compared_67 rfl rfl (Nat.le_of_ble_eq_true rfl) ?_
        refine ⟨S, P, V, st, m, ((ch2 + 1)), (gh2 :: G), rfl, ⟨th17, by first | assumption | (rw [(by rw [(eh17.2.1 15 (by decide) : h17 39 15 = h2 39 15)] : h17 39 15 = h2 39 15)]; assumption), by rw [(by rw [(eh17.2.1 28 (by decide) : h17 39 28 = h2 39 28), (eh2.2.1 28 (by decide) : h2 39 28 = hi 39 28)] : h17 39 28 = hi 39 28)]; exact ho, (gcL.kp (by rw [(eh17.1 49 (by decide) : h17 49 = h2 49)]) (by rw [(eh17.2.1 24 (by decide) : h17 39 24 = h2 39 24)])), by rw [(by rw [(eh17.2.1 24 (by decide) : h17 39 24 = h2 39 24)] : h17 39 24 = h2 39 24)]; omega⟩, fun v18 h19 eh19 => ?_⟩
        have frh19 : Fr [39, 49] hi h19 := (Fr.call frh17 eh19.1 (by decide))
        have ff39h19 : FF 39 [10, 11, 12, 13, 14, 15, 16, 24] hi h19 := FF.call ff39h17 (eh19.2.1) (by decide)
        rw [(eh17.2.1 28 (by decide) : h17 39 28 = h2 39 28), (eh2.2.1 28 (by decide) : h2 39 28 = hi 39 28)] at eh19
        rw [(eh17.2.1 24 (by decide) : h17 39 24 = h2 39 24)] at eh19
        refine z_if_ne (pc := 70) (tgt := 75) dX8_compared_70 (by decide) ⟨by omega, by omega⟩ (fun c20 => ?_) (fun c20 => ?_)
        · have eph19 := eh19.2.2
          replace eh19 := And.intro eh19.1 (And.intro eh19.2.1 trivial)
          replace eph19 := eph19.resolve_right (fun q => absurd q.1 (by clear eph19; omega))
          obtain ⟨-, ch19, gh19, gsh19, th19, gch19, gbh19, fh19, gdh19⟩ := eph19
          have gsb := gsh19
          have gcM := gch19
          have gdb := gdh19
          have gbb := gbh19
          have cm2 := th19.2.1
          have c2p := gch19.1
          refine z_aload_n (pc := 75) (x := 40) dX8_compared_75 rfl 1 rfl ?_
          refine z_iload_n (pc := 76) dX8_compared_76 rfl 0 rfl ?_
          refine z_iconst (pc := 77) (v := 0) dX8_compared_77 rfl ?_
          refine z_callV (pc := 78) (kc := kX8_code) (n := 2) (pl := 39) (ci := 7) (C := RX8) (As := [AI 5, AI 0]) (stk := []) ct_X8_code (gdV rfl rfl (iw37 _ (List.mem_of_getElem? (i := 1) rfl)) (iw37 _ (List.mem_of_getElem? (i := 2) rfl)) (iw37 _ (List.mem_of_getElem? (i := 3) rfl)) (iw1 _ (List.mem_of_getElem? (i := 5) rfl)) (iw37 _ (List.mem_of_getElem? (i := 4) rfl))) rfl ⟨rfl, rfl⟩ (by decide +kernel) ⟨by decide, by decide⟩ (by decide) rfl rfl dX8_compared_78 rfl rfl (Nat.le_of_ble_eq_true rfl) ?_
          refine ⟨_, _, rfl, ⟨by omega, by decide, by decide⟩, fun h21 eh21 => ?_⟩
          have frh21 : Fr [39, 49] hi h21 := (Fr.call frh19 eh21.1 (by decide))
          have ff39h21 : FF 39 [10, 11, 12, 13, 14, 15, 16, 24] hi h21 := FF.call ff39h19 (eh21.2.1) (by decide)
          have th21 : TM h21 S P V st m ch19 := TM.fr th19 eh21.1 eh21.2.1 (by decide) (by decide)
          have cg4 := gcM.code (h2 := h21) (x := 1000 * 5) (by rw [eh21.2.2.1]; exact updI_cn rfl (by omega)) (by rw [eh21.2.2.2]) (okX_o (by decide))
          rw [apC_o (by decide)] at cg4
          have w24 := eh21.2.2.2
          refine z_iconst (pc := 81) (v := 1) dX8_compared_81 rfl ?_
          refine z_zret (pc := 82) rfl (by decide) dX8_compared_82 ?_
          exact hQ 1 h21 ⟨frh21, ff39h21, by first | exact Or.inr ⟨by omega, _, cmpF_bad1 gsa, xh21⟩ | exact Or.inr ⟨by omega, _, cmpF_bad2 gsa (by omega), xh21⟩ | exact Or.inr ⟨by omega, _, cmpF_bad3 gsa (by omega) gsb, xh21⟩ | exact Or.inl ⟨rfl, _, bin 5 _ _, (cmpF_ok gsa (by omega) gsb).trans (by rw [show S _ - 2 = 5 by omega]), th21, cg4, by omega, by first | assumption | (rw [(by rw [(eh21.2.1 15 (by decide) : h21 39 15 = h19 39 15)] : h21 39 15 = h19 39 15)]; assumption), QG.bin gda gdb (by decide)⟩⟩
        · have eph19 := eh19.2.2
          replace eh19 := And.intro eh19.1 (And.intro eh19.2.1 trivial)
          replace eph19 := eph19.resolve_left (fun q => absurd q.1 (by clear eph19; omega))
          obtain ⟨-, ph19, gsh19, xh19⟩ := eph19
          have gsb := gsh19
          refine z_iconst (pc := 73) (v := 0) dX8_compared_73 rfl ?_
          refine z_zret (pc := 74) rfl (by decide) dX8_compared_74 ?_
          exact hQ 0 h19 ⟨frh19, ff39h19, by first | exact Or.inr ⟨by omega, _, cmpF_bad1 gsa, xh19⟩ | exact Or.inr ⟨by omega, _, cmpF_bad2 gsa (by omega), xh19⟩ | exact Or.inr ⟨by omega, _, cmpF_bad3 gsa (by omega) gsb, xh19⟩ | exact Or.inl ⟨rfl, _, bin 5 _ _, (cmpF_ok gsa (by omega) gsb).trans (by rw [show S _ - 2 = 5 by omega]), (by assumption), cg4, by omega, by first | assumption | (rw [(rfl : h19 39 15 = h19 39 15)]; assumption), QG.bin gda gdb (by decide)⟩⟩
    · refine z_iconst (pc := 18) (v := 4) dX8_compared_18 rfl ?_
      refine z_goto (pc := 19) (tgt := 50) dX8_compared_19 (by decide) ?_
      refine z_istore_n (pc := 50) (lv' := [(1, AI 4), (0, AR 40)]) dX8_compared_50 rfl (by decide) rfl ?_
      refine z_iload_n (pc := 51) dX8_compared_51 rfl 0 rfl ?_
      refine z_iconst (pc := 52) (v := (-1)) dX8_compared_52 rfl ?_
      refine z_icmp_ne (pc := 53) (tgt := 62) dX8_compared_53 (by decide) ⟨by decide, by decide⟩ ⟨by decide, by decide⟩ (fun _ => ?_) (fun q => absurd q (by decide))
      refine z_aload_n (pc := 62) (x := 40) dX8_compared_62 rfl 1 rfl ?_
      refine z_callV (pc := 63) (kc := kX8_go) (n := 0) (pl := 39) (ci := 7) (C := RX8) (As := []) (stk := []) ct_X8_go2 (gdV rfl rfl (iw27 _ (List.mem_of_getElem? (i := 11) rfl)) (iw27 _ (List.mem_of_getElem? (i := 12) rfl)) (iw27 _ (List.mem_of_getElem? (i := 13) rfl)) (iw1 _ (List.mem_of_getElem? (i := 5) rfl)) (iw27 _ (List.mem_of_getElem? (i := 14) rfl))) rfl ⟨rfl, rfl⟩ (by decide +kernel) ⟨by decide, by decide⟩ (by decide) rfl rfl dX8_compared_63 rfl rfl (Nat.le_of_ble_eq_true rfl) ?_
      refine ⟨S, P, V, st, m, ch2, rfl, ⟨th2, by omega, by omega⟩, fun h22 eh22 => ?_⟩
      have frh22 : Fr [39, 49] hi h22 := (Fr.call frh2 eh22.1 (by decide))
      have ff39h22 : FF 39 [10, 11, 12, 13, 14, 15, 16, 24] hi h22 := FF.call ff39h2 (eh22.2.1) (by decide)
      have th22 : TM h22 S P V st m (ch2 + 1) := eh22.2.2
      refine z_aload_n (pc := 66) (x := 40) dX8_compared_66 rfl 1 rfl ?_
      refine z_callV (pc := 67) (kc := kX8_sumHere) (n := 0) (pl := 39) (ci := 7) (C := RX8) (As := []) (stk := []) ct_X8_sumHere (gdV rfl rfl (iw36 _ (List.mem_of_getElem? (i := 17) rfl)) (iw36 _ (List.mem_of_getElem? (i := 18) rfl)) (iw36 _ (List.mem_of_getElem? (i := 19) rfl)) (iw1 _ (List.mem_of_getElem? (i := 5) rfl)) (iw36 _ (List.mem_of_getElem? (i := 20) rfl))) rfl ⟨rfl, rfl⟩ (by decide +kernel) ⟨by decide, by decide⟩ (by decide) rfl rfl dX8_compared_67 rfl rfl (Nat.le_of_ble_eq_true rfl) ?_
      refine ⟨S, P, V, st, m, ((ch2 + 1)), (gh2 :: G), rfl, ⟨th22, by first | assumption | (rw [(by rw [(eh22.2.1 15 (by decide) : h22 39 15 = h2 39 15)] : h22 39 15 = h2 39 15)]; assumption), by rw [(by rw [(eh22.2.1 28 (by decide) : h22 39 28 = h2 39 28), (eh2.2.1 28 (by decide) : h2 39 28 = hi 39 28)] : h22 39 28 = hi 39 28)]; exact ho, (gcL.kp (by rw [(eh22.1 49 (by decide) : h22 49 = h2 49)]) (by rw [(eh22.2.1 24 (by decide) : h22 39 24 = h2 39 24)])), by rw [(by rw [(eh22.2.1 24 (by decide) : h22 39 24 = h2 39 24)] : h22 39 24 = h2 39 24)]; omega⟩, fun v23 h24 eh24 => ?_⟩
      have frh24 : Fr [39, 49] hi h24 := (Fr.call frh22 eh24.1 (by decide))
      have ff39h24 : FF 39 [10, 11, 12, 13, 14, 15, 16, 24] hi h24 := FF.call ff39h22 (eh24.2.1) (by decide)
      rw [(eh22.2.1 28 (by decide) : h22 39 28 = h2 39 28), (eh2.2.1 28 (by decide) : h2 39 28 = hi 39 28)] at eh24
      rw [(eh22.2.1 24 (by decide) : h22 39 24 = h2 39 24)] at eh24
      refine z_if_ne (pc := 70) (tgt := 75) dX8_compared_70 (by decide) ⟨by omega, by omega⟩ (fun c25 => ?_) (fun c25 => ?_)
      · have eph24 := eh24.2.2
        replace eh24 := And.intro eh24.1 (And.intro eh24.2.1 trivial)
        replace eph24 := eph24.resolve_right (fun q => absurd q.1 (by clear eph24; omega))
        obtain ⟨-, ch24, gh24, gsh24, th24, gch24, gbh24, fh24, gdh24⟩ := eph24
        have gsb := gsh24
        have gcM := gch24
        have gdb := gdh24
        have gbb := gbh24
        have cm2 := th24.2.1
        have c2p := gch24.1
        refine z_aload_n (pc := 75) (x := 40) dX8_compared_75 rfl 1 rfl ?_
        refine z_iload_n (pc := 76) dX8_compared_76 rfl 0 rfl ?_
        refine z_iconst (pc := 77) (v := 0) dX8_compared_77 rfl ?_
        refine z_callV (pc := 78) (kc := kX8_code) (n := 2) (pl := 39) (ci := 7) (C := RX8) (As := [AI 4, AI 0]) (stk := []) ct_X8_code (gdV rfl rfl (iw37 _ (List.mem_of_getElem? (i := 1) rfl)) (iw37 _ (List.mem_of_getElem? (i := 2) rfl)) (iw37 _ (List.mem_of_getElem? (i := 3) rfl)) (iw1 _ (List.mem_of_getElem? (i := 5) rfl)) (iw37 _ (List.mem_of_getElem? (i := 4) rfl))) rfl ⟨rfl, rfl⟩ (by decide +kernel) ⟨by decide, by decide⟩ (by decide) rfl rfl dX8_compared_78 rfl rfl (Nat.le_of_ble_eq_true rfl) ?_
        refine ⟨_, _, rfl, ⟨by omega, by decide, by decide⟩, fun h26 eh26 => ?_⟩
        have frh26 : Fr [39, 49] hi h26 := (Fr.call frh24 eh26.1 (by decide))
        have ff39h26 : FF 39 [10, 11, 12, 13, 14, 15, 16, 24] hi h26 := FF.call ff39h24 (eh26.2.1) (by decide)
        have th26 : TM h26 S P V st m ch24 := TM.fr th24 eh26.1 eh26.2.1 (by decide) (by decide)
        have cg4 := gcM.code (h2 := h26) (x := 1000 * 4) (by rw [eh26.2.2.1]; exact updI_cn rfl (by omega)) (by rw [eh26.2.2.2]) (okX_o (by decide))
        rw [apC_o (by decide)] at cg4
        have w24 := eh26.2.2.2
        refine z_iconst (pc := 81) (v := 1) dX8_compared_81 rfl ?_
        refine z_zret (pc := 82) rfl (by decide) dX8_compared_82 ?_
        exact hQ 1 h26 ⟨frh26, ff39h26, by first | exact Or.inr ⟨by omega, _, cmpF_bad1 gsa, xh26⟩ | exact Or.inr ⟨by omega, _, cmpF_bad2 gsa (by omega), xh26⟩ | exact Or.inr ⟨by omega, _, cmpF_bad3 gsa (by omega) gsb, xh26⟩ | exact Or.inl ⟨rfl, _, bin 4 _ _, (cmpF_ok gsa (by omega) gsb).trans (by rw [show S _ - 2 = 4 by omega]), th26, cg4, by omega, by first | assumption | (rw [(by rw [(eh26.2.1 15 (by decide) : h26 39 15 = h24 39 15)] : h26 39 15 = h24 39 15)]; assumption), QG.bin gda gdb (by decide)⟩⟩
      · have eph24 := eh24.2.2
        replace eh24 := And.intro eh24.1 (And.intro eh24.2.1 trivial)
        replace eph24 := eph24.resolve_left (fun q => absurd q.1 (by clear eph24; omega))
        obtain ⟨-, ph24, gsh24, xh24⟩ := eph24
        have gsb := gsh24
        refine z_iconst (pc := 73) (v := 0) dX8_compared_73 rfl ?_
        refine z_zret (pc := 74) rfl (by decide) dX8_compared_74 ?_
        exact hQ 0 h24 ⟨frh24, ff39h24, by first | exact Or.inr ⟨by omega, _, cmpF_bad1 gsa, xh24⟩ | exact Or.inr ⟨by omega, _, cmpF_bad2 gsa (by omega), xh24⟩ | exact Or.inr ⟨by omega, _, cmpF_bad3 gsa (by omega) gsb, xh24⟩ | exact Or.inl ⟨rfl, _, bin 4 _ _, (cmpF_ok gsa (by omega) gsb).trans (by rw [show S _ - 2 = 4 by omega]), (by assumption), cg4, by omega, by first | assumption | (rw [(rfl : h24 39 15 = h24 39 15)]; assumption), QG.bin gda gdb (by decide)⟩⟩
  · have eph2 := eh2.2.2
    replace eh2 := And.intro eh2.1 (And.intro eh2.2.1 trivial)
    replace eph2 := eph2.resolve_left (fun q => absurd q.1 (by clear eph2; omega))
    obtain ⟨-, ph2, gsh2, xh2⟩ := eph2
    have gsa := gsh2
    refine z_iconst (pc := 7) (v := 0) dX8_compared_7 rfl ?_
    refine z_zret (pc := 8) rfl (by decide) dX8_compared_8 ?_
    exact hQ 0 h2 ⟨frh2, ff39h2, by first | exact Or.inr ⟨by omega, _, cmpF_bad1 gsa, xh2⟩ | exact Or.inr ⟨by omega, _, cmpF_bad2 gsa (by omega), xh2⟩ | exact Or.inr ⟨by omega, _, cmpF_bad3 gsa (by omega) gsb, xh2⟩ | exact Or.inl ⟨rfl, _, bin 4 _ _, (cmpF_ok gsa (by omega) gsb).trans (by rw [show S _ - 2 = 4 by omega]), (by assumption), cg4, by omega, by first | assumption | (rw [(rfl : h2 39 15 = h2 39 15)]; assumption), QG.bin gda gdb (by decide)⟩⟩

abbrev kX8_isTop : Kd := (cX8_isTop, .code yX8_isTop cX8_isTop 2 (some .boolean) :: wsL_law0, rmL 1, RX8, (some .boolean), 2)
theorem ct_X8_isTop : Ct kX8_isTop yX8_isTop (fun a hi Q => ∃ o : Int, ∃ W : List Int, a = [AR 40, AI o] ∧ (WM hi W ∧ hi 39 26 ≤ 700 ∧ inR o ∧ o ≠ 0) ∧ ∀ v : Int, ((v = 1 ∧ topW W = o) ∨ (v = 0 ∧ topW W ≠ o)) → Q (AI v) hi) := by
  refine Ct.of (ws' := _) (by decide +kernel) rfl rfl ?_
  intro a hi Q hT
  obtain ⟨o, W, rfl, hpre, hQ⟩ := hT
  refine ⟨Nat.le_of_ble_eq_true rfl, ?_⟩
  show Z kX8_isTop Q 0 [(0, AR 40), (1, AI o)] [] hi
  have ir := hpre.2.2.1
  have wl := hpre.1.1
  refine z_aload_n (pc := 0) (x := 40) dX8_isTop_0 rfl 0 rfl ?_
  refine z_getI (pc := 1) (pl := 39) (f := 26) (ci := 7) (C := RX8) (T := TX8) (N := 33) hu_X8 (by decide) rfl rfl (by decide) rfl (List.mem_cons_of_mem _ (iw36 _ (List.mem_of_getElem? (i := 3) rfl))) rfl (by decide) dX8_isTop_1 (fun v1 ev1 rv1 => ?_)
  refine z_if_le (pc := 4) (tgt := 26) dX8_isTop_4 (by decide) ⟨by omega, by omega⟩ (fun c2 => ?_) (fun c2 => ?_)
  · refine z_iconst (pc := 26) (v := 0) dX8_isTop_26 rfl ?_
    refine z_zret (pc := 27) rfl (by decide) dX8_isTop_27 ?_
    exact hQ 0 (by first | exact Or.inr ⟨rfl, by rw [it_nil hpre.1 (by omega)]; exact fun q => hpre.2.2.2 q.symm⟩ | (have q := it_top hpre.1 (by omega) w17 (by omega); omega))
  · refine z_aload_n (pc := 7) (x := 40) dX8_isTop_7 rfl 0 rfl ?_
    refine z_getR (pc := 8) (pl := 39) (f := 25) (ci := 7) (C := RX8) (T := TX8) (N := 33) hu_X8 (by decide) rfl rfl (by decide) rfl (List.mem_cons_of_mem _ (iw5 _ (List.mem_of_getElem? (i := 16) rfl))) rfl dX8_isTop_8 ?_
    refine z_aload_n (pc := 11) (x := 40) dX8_isTop_11 rfl 0 rfl ?_
    refine z_getI (pc := 12) (pl := 39) (f := 26) (ci := 7) (C := RX8) (T := TX8) (N := 33) hu_X8 (by decide) rfl rfl (by decide) rfl (List.mem_cons_of_mem _ (iw36 _ (List.mem_of_getElem? (i := 3) rfl))) rfl (by decide) dX8_isTop_12 (fun v3 ev3 rv3 => ?_)
    refine z_iconst (pc := 15) (v := 1) dX8_isTop_15 rfl ?_
    refine z_isub (pc := 16) dX8_isTop_16 (fun v4 ev4 => ?_)
    refine z_iald (pc := 17) (pl := 50) (by decide) rfl (by decide) (by decide) (by omega) (by omega) dX8_isTop_17 (fun v5 ev5 rv5 => ?_)
    have w17 := ev5
    refine z_iload_n (pc := 18) dX8_isTop_18 rfl 1 rfl ?_
    refine z_icmp_ne (pc := 19) (tgt := 26) dX8_isTop_19 (by decide) ⟨by omega, by omega⟩ ⟨by omega, by omega⟩ (fun c6 => ?_) (fun c6 => ?_)
    · refine z_iconst (pc := 26) (v := 0) dX8_isTop_26 rfl ?_
      refine z_zret (pc := 27) rfl (by decide) dX8_isTop_27 ?_
      exact hQ 0 (by first | exact Or.inr ⟨rfl, by rw [it_nil hpre.1 (by omega)]; exact fun q => hpre.2.2.2 q.symm⟩ | (have q := it_top hpre.1 (by omega) w17 (by omega); omega))
    · refine z_iconst (pc := 22) (v := 1) dX8_isTop_22 rfl ?_
      refine z_goto (pc := 23) (tgt := 27) dX8_isTop_23 (by decide) ?_
      refine z_zret (pc := 27) rfl (by decide) dX8_isTop_27 ?_
      exact hQ 1 (by first | exact Or.inr ⟨rfl, by rw [it_nil hpre.1 (by omega)]; exact fun q => hpre.2.2.2 q.symm⟩ | (have q := it_top hpre.1 (by omega) w17 (by omega); omega))

abbrev kX8_hasRound : Kd := (cX8_hasRound, .code yX8_hasRound cX8_hasRound 2 (some .boolean) :: wsL_law0, rmL 1, RX8, (some .boolean), 2)
theorem ct_X8_hasRound : Ct kX8_hasRound yX8_hasRound (fun a hi Q => ∃ W : List Int, a = [AR 40] ∧ (WM hi W ∧ hi 39 26 ≤ 700) ∧ ∀ v : Int, ((v = 1 ∧ 10 ∈ W) ∨ (v = 0 ∧ 10 ∉ W)) → Q (AI v) hi) := by
  refine Ct.of (ws' := _) (by decide +kernel) rfl rfl ?_
  intro a hi Q hT
  obtain ⟨W, rfl, hpre, hQ⟩ := hT
  refine ⟨Nat.le_of_ble_eq_true rfl, ?_⟩
  show Z kX8_hasRound Q 0 [(0, AR 40)] [] hi
  have wl := hpre.1.1
  refine z_iconst (pc := 0) (v := 0) dX8_hasRound_0 rfl ?_
  refine z_istore_n (pc := 1) (lv' := [(1, AI 0), (0, AR 40)]) dX8_hasRound_1 rfl (by decide) rfl ?_
  have J2 : ∀ (N : Nat) (k : Int), (0 ≤ k ∧ k ≤ hi 39 26) → (∀ z : Int, 0 ≤ z → z < k → ¬ (hi 50 z.toNat = 10)) → ((hi 39 26 - k).toNat) < N → Z kX8_hasRound Q 2 [(1, AI k), (0, AR 40)] [] hi := by
    intro N
    induction N with
    | zero => intro k _ _ _; exact absurd (by assumption) (Nat.not_lt_zero _)
    | succ N ih2 =>
      intro k i0 i1 hm2
      refine z_iload_n (pc := 2) dX8_hasRound_2 rfl 0 rfl ?_
      refine z_aload_n (pc := 3) (x := 40) dX8_hasRound_3 rfl 1 rfl ?_
      refine z_getI (pc := 4) (pl := 39) (f := 26) (ci := 7) (C := RX8) (T := TX8) (N := 33) hu_X8 (by decide) rfl rfl (by decide) rfl (List.mem_cons_of_mem _ (iw36 _ (List.mem_of_getElem? (i := 3) rfl))) rfl (by decide) dX8_hasRound_4 (fun v1 ev1 rv1 => ?_)
      refine z_icmp_ge (pc := 7) (tgt := 29) dX8_hasRound_7 (by decide) ⟨by omega, by omega⟩ ⟨by omega, by omega⟩ (fun c2 => ?_) (fun c2 => ?_)
      · refine z_iconst (pc := 29) (v := 0) dX8_hasRound_29 rfl ?_
        refine z_zret (pc := 30) rfl (by decide) dX8_hasRound_30 ?_
        exact hQ 0 (by first | exact Or.inl ⟨rfl, by rw [← hpre.1.2]; exact rdW_mem.mpr ⟨k, by omega, by omega, by omega⟩⟩ | exact Or.inr ⟨rfl, fun q => by rw [← hpre.1.2] at q; obtain ⟨z, z0, z1, z2⟩ := rdW_mem.mp q; exact i1 z z0 (by omega) z2⟩)
      · refine z_aload_n (pc := 10) (x := 40) dX8_hasRound_10 rfl 1 rfl ?_
        refine z_getR (pc := 11) (pl := 39) (f := 25) (ci := 7) (C := RX8) (T := TX8) (N := 33) hu_X8 (by decide) rfl rfl (by decide) rfl (List.mem_cons_of_mem _ (iw5 _ (List.mem_of_getElem? (i := 16) rfl))) rfl dX8_hasRound_11 ?_
        refine z_iload_n (pc := 14) dX8_hasRound_14 rfl 0 rfl ?_
        refine z_iald (pc := 15) (pl := 50) (by decide) rfl (by decide) (by decide) (by omega) (by omega) dX8_hasRound_15 (fun v3 ev3 rv3 => ?_)
        refine z_bipush (pc := 16) (v := 10) dX8_hasRound_16 (by decide +kernel) ?_
        refine z_icmp_ne (pc := 18) (tgt := 23) dX8_hasRound_18 (by decide) ⟨by omega, by omega⟩ ⟨by decide, by decide⟩ (fun c4 => ?_) (fun c4 => ?_)
        · refine z_iinc (pc := 23) (j := 0) (w := fun q => (1, AI q) :: [(0, AR 40)]) dX8_hasRound_23 rfl (by decide) (fun _ => rfl) (fun v5 ev5 => ?_)
          refine z_goto (pc := 26) (tgt := 2) dX8_hasRound_26 (by decide) ?_
          exact ih2 v5 (by omega) (no_step i1 (by omega) (by omega)) (by omega)
        · refine z_iconst (pc := 21) (v := 1) dX8_hasRound_21 rfl ?_
          refine z_zret (pc := 22) rfl (by decide) dX8_hasRound_22 ?_
          exact hQ 1 (by first | exact Or.inl ⟨rfl, by rw [← hpre.1.2]; exact rdW_mem.mpr ⟨k, by omega, by omega, by omega⟩⟩ | exact Or.inr ⟨rfl, fun q => by rw [← hpre.1.2] at q; obtain ⟨z, z0, z1, z2⟩ := rdW_mem.mp q; exact i1 z z0 (by omega) z2⟩)
  exact J2 _ 0 (by omega) (no_0 rfl) (Nat.lt_succ_self _)

abbrev kX8_drops : Kd := (cX8_drops, .code yX8_drops cX8_drops 1 none :: wsL_law0, rmL 2, RX8, none, 1)
theorem ct_X8_drops : Ct kX8_drops yX8_drops (fun a hi Q => ∃ x : Int, ∃ W : List Int, ∃ G : List Ex, a = [AR 40] ∧ (WM hi (x :: W) ∧ CM hi G ∧ (hi 39 24 < 700 ∧ hi 39 26 ≤ 700) ∧ okX (1000 * x) G ∧ (0 ≤ x ∧ x ≤ 10)) ∧ ∀ h2 : HI, (Fr [39, 49] hi h2 ∧ FF 39 [24, 26] hi h2 ∧ (WM h2 W ∧ CM h2 (apC (1000 * x) G) ∧ h2 39 24 = hi 39 24 + 1 ∧ h2 39 26 = hi 39 26 - 1)) → Q AU h2) := by
  refine Ct.of (ws' := _) (by decide +kernel) rfl rfl ?_
  intro a hi Q hT
  obtain ⟨x, W, G, rfl, hpre, hQ⟩ := hT
  refine ⟨Nat.le_of_ble_eq_true rfl, ?_⟩
  show Z kX8_drops Q 0 [(0, AR 40)] [] hi
  obtain ⟨wd, wp⟩ := hpre.1.hd
  have cp := hpre.2.1.1
  refine z_aload_n (pc := 0) (x := 40) dX8_drops_0 rfl 0 rfl ?_
  refine z_dup (pc := 1) dX8_drops_1 rfl ?_
  refine z_getI (pc := 2) (pl := 39) (f := 26) (ci := 7) (C := RX8) (T := TX8) (N := 33) hu_X8 (by decide) rfl rfl (by decide) rfl (List.mem_cons_of_mem _ (iw36 _ (List.mem_of_getElem? (i := 3) rfl))) rfl (by decide) dX8_drops_2 (fun v1 ev1 rv1 => ?_)
  refine z_iconst (pc := 5) (v := 1) dX8_drops_5 rfl ?_
  refine z_isub (pc := 6) dX8_drops_6 (fun v2 ev2 => ?_)
  refine z_putI (pc := 7) (pl := 39) (f := 26) (ci := 7) (C := RX8) (T := TX8) (N := 33) hu_X8 tyX8_ok nmX8 (by decide) rfl rfl (by decide) rfl (List.mem_cons_of_mem _ (iw36 _ (List.mem_of_getElem? (i := 3) rfl))) rfl rfl (ty := .int) (by decide +kernel) rfl rfl ⟨by omega, by omega⟩ dX8_drops_7 (fun h3 eh3 => ?_)
  have frh3 : Fr [39, 49] hi h3 := (Fr.put (Fr.rf) eh3 (by decide))
  have ff39h3 : FF 39 [24, 26] hi h3 := FF.put (FF.rf) eh3 (by decide)
  refine z_aload_n (pc := 10) (x := 40) dX8_drops_10 rfl 0 rfl ?_
  refine z_aload_n (pc := 11) (x := 40) dX8_drops_11 rfl 0 rfl ?_
  refine z_getR (pc := 12) (pl := 39) (f := 25) (ci := 7) (C := RX8) (T := TX8) (N := 33) hu_X8 (by decide) rfl rfl (by decide) rfl (List.mem_cons_of_mem _ (iw5 _ (List.mem_of_getElem? (i := 16) rfl))) rfl dX8_drops_12 ?_
  refine z_aload_n (pc := 15) (x := 40) dX8_drops_15 rfl 0 rfl ?_
  refine z_getI (pc := 16) (pl := 39) (f := 26) (ci := 7) (C := RX8) (T := TX8) (N := 33) hu_X8 (by decide) rfl rfl (by decide) rfl (List.mem_cons_of_mem _ (iw36 _ (List.mem_of_getElem? (i := 3) rfl))) rfl (by decide) dX8_drops_16 (fun v4 ev4 rv4 => ?_)
  rw [(by rw [eh3]; rfl : h3 39 26 = v2)] at ev4
  refine z_iald (pc := 19) (pl := 50) (by decide) rfl (by decide) (by decide) (by omega) (by omega) dX8_drops_19 (fun v5 ev5 rv5 => ?_)
  rw [(by rw [eh3]; rfl : h3 50 = hi 50)] at ev5
  have w19 : v5 = x := by rw [ev5, show (v4 : Int) = hi 39 26 - 1 by omega]; exact wd
  refine z_iconst (pc := 20) (v := 0) dX8_drops_20 rfl ?_
  refine z_callV (pc := 21) (kc := kX8_code) (n := 2) (pl := 39) (ci := 7) (C := RX8) (As := [AI v5, AI 0]) (stk := []) ct_X8_code (gdV rfl rfl (iw37 _ (List.mem_of_getElem? (i := 1) rfl)) (iw37 _ (List.mem_of_getElem? (i := 2) rfl)) (iw37 _ (List.mem_of_getElem? (i := 3) rfl)) (iw1 _ (List.mem_of_getElem? (i := 5) rfl)) (iw37 _ (List.mem_of_getElem? (i := 4) rfl))) rfl ⟨rfl, rfl⟩ (by decide +kernel) ⟨by decide, by decide⟩ (by decide) rfl rfl dX8_drops_21 rfl rfl (Nat.le_of_ble_eq_true rfl) ?_
  refine ⟨_, _, rfl, ⟨by rw [(by rw [(by rw [eh3]; rfl : h3 39 24 = hi 39 24)] : h3 39 24 = hi 39 24)]; omega, by omega, by decide⟩, fun h6 eh6 => ?_⟩
  have frh6 : Fr [39, 49] hi h6 := (Fr.call frh3 eh6.1 (by decide))
  have ff39h6 : FF 39 [24, 26] hi h6 := FF.call ff39h3 (eh6.2.1) (by decide)
  have cg := (hpre.2.1.kp (h2 := h3) (by rw [(by rw [eh3]; rfl : h3 49 = hi 49)] : h3 49 = hi 49) (by rw [(by rw [eh3]; rfl : h3 39 24 = hi 39 24)] : h3 39 24 = hi 39 24)).code (h2 := h6) (x := 1000 * x) (by rw [eh6.2.2.1]; exact updI_cn rfl (by omega)) eh6.2.2.2 hpre.2.2.2.1
  have w24 := eh6.2.2.2
  have f24 := (by rw [(by rw [eh3]; rfl : h3 39 24 = hi 39 24)] : h3 39 24 = hi 39 24)
  refine z_vret (pc := 24) rfl dX8_drops_24 ?_
  exact hQ h6 ⟨frh6, ff39h6, ⟨hpre.1.pop (by rw [(eh6.1 50 (by decide) : h6 50 = h3 50), (by rw [eh3]; rfl : h3 50 = hi 50)] : h6 50 = hi 50) (by rw [(by rw [(eh6.2.1 26 (by decide) : h6 39 26 = h3 39 26), (by rw [eh3]; rfl : h3 39 26 = v2)] : h6 39 26 = v2)]; omega), cg, by omega, by rw [(by rw [(eh6.2.1 26 (by decide) : h6 39 26 = h3 39 26), (by rw [eh3]; rfl : h3 39 26 = v2)] : h6 39 26 = v2)]; omega⟩⟩

/-- a token: from s on blank to p; the bytes from p to e; its sign, its value -/
def Tk (f : Nat → Int) (n s p e g v : Int) : Prop := (s ≤ p ∧ p < n ∧ ∀ q, s ≤ q → q < p → isBl (f q.toNat)) ∧ ¬ isBl (f p.toNat) ∧ RunE f n p e ∧ SgP f p e g ∧ (g = 2 → v = wh f p (e - p).toNat) ∧ (g ≠ 2 → v = 0)
def TkS (f : Nat → Int) (n : Int) (S P V st : Nat → Int) (m : Nat) : Prop := st 0 = 0 ∧ ∀ i, i < m → Tk f n (st i) (P i) (st (i + 1)) (S i) (V i)
def CutI (f S P V : Nat → Int) (n b k mm : Int) : Prop := ∃ (st : Nat → Int) (m : Nat), mm = m ∧ ((m : Int) ≤ b ∧ b ≤ n) ∧ TkS f n S P V st m ∧ st m = b ∧ (∀ q, b ≤ q → q < k → isBl (f q.toNat)) ∧ ∀ i, i < m → S i ≠ 1
/-- the tokens cut: m of them, and the end -/
def CutP (f S P V : Nat → Int) (n mm : Int) : Prop := ∃ (st : Nat → Int) (m : Nat), mm = m + 1 ∧ (m : Int) ≤ n ∧ TkS f n S P V st m ∧ (S m = 0 ∧ P m = n ∧ V m = 0) ∧ (((∀ i, i < m → S i ≠ 1) ∧ st m ≤ n ∧ ∀ q, st m ≤ q → q < n → isBl (f q.toNat)) ∨ ∃ j, m = j + 1 ∧ (∀ i, i < j → S i ≠ 1) ∧ S j = 1)
theorem CutI.bd {f S P V : Nat → Int} {n b k mm : Int} (h : CutI f S P V n b k mm) : 0 ≤ mm ∧ mm ≤ b ∧ b ≤ n := by
  obtain ⟨st, m, e, q, -⟩ := h; omega
theorem cut_0 {f S P V : Nat → Int} {n b k mm : Int} (hn : 0 ≤ n) (hb : b = 0) (hk : k = 0) (hm : mm = 0) : CutI f S P V n b k mm := by
  subst hb; subst hk; subst hm
  exact ⟨fun _ => 0, 0, rfl, by omega, ⟨rfl, fun i hi => absurd hi (Nat.not_lt_zero _)⟩, rfl, fun q q0 q1 => by omega, fun i hi => absurd hi (Nat.not_lt_zero _)⟩
theorem cut_skip {f S P V : Nat → Int} {n b k k' mm : Int} (hk : k' = k + 1) (h : k < b ∨ isBl (f k.toNat)) (i : CutI f S P V n b k mm) : CutI f S P V n b k' mm := by
  obtain ⟨st, m, e, q1, q2, q3, q4, q5⟩ := i
  refine ⟨st, m, e, q1, q2, q3, fun q q0 qk => ?_, q5⟩
  rcases Int.lt_or_eq_of_le (show q ≤ k by omega) with c | c
  · exact q4 q q0 c
  · rw [c]; exact h.resolve_left (by omega)
theorem tks_add {f S P V st : Nat → Int} {n p e g v : Int} {m : Nat} (h : TkS f n S P V st m) (t : Tk f n (st m) p e g v) : TkS f n (updI S m g) (updI P m p) (updI V m v) (updI st (m + 1) e) (m + 1) := by
  refine ⟨h.1, fun i hi => ?_⟩
  have s1 : ∀ (F : Nat → Int) (x : Int), i ≠ m → updI F m x i = F i := fun F x c => if_neg c
  have s2 : ∀ (F : Nat → Int) (x : Int), updI F m x m = x := fun F x => if_pos rfl
  have s3 : ∀ j : Nat, j ≠ m + 1 → updI st (m + 1) e j = st j := fun j c => if_neg c
  have s4 : updI st (m + 1) e (m + 1) = e := if_pos rfl
  by_cases c : i = m
  · subst c
    rw [s2, s2, s2, s4, s3 i (by omega)]; exact t
  · rw [s1 _ _ c, s1 _ _ c, s1 _ _ c, s3 i (by omega), s3 (i + 1) (by omega)]; exact h.2 i (by omega)
theorem tks_end {f S P V st : Nat → Int} {n g p v : Int} {m : Nat} (h : TkS f n S P V st m) : TkS f n (updI S m g) (updI P m p) (updI V m v) st m := by
  refine ⟨h.1, fun i hi => ?_⟩
  have s1 : ∀ (F : Nat → Int) (x : Int), updI F m x i = F i := fun F x => if_neg (by omega)
  rw [s1, s1, s1]; exact h.2 i hi
theorem cut_tk {f : Nat → Int} {n b k e g v : Int} (hbk : b ≤ k ∧ k < n) (hq : ∀ q, b ≤ q → q < k → isBl (f q.toNat)) (hb : ¬ isBl (f k.toNat)) (hr : RunE f n k e) (hg : SgP f k e g) (hv : g = 2 → v = wh f k (e - k).toNat) (hv2 : g ≠ 2 → v = 0) : Tk f n b k e g v := ⟨⟨hbk.1, hbk.2, hq⟩, hb, hr, hg, hv, hv2⟩
theorem cut_tok {f S P V : Nat → Int} {n b k k' mm e g v : Int} (hk : k' = k + 1) (i : CutI f S P V n b k mm) (hbk : b ≤ k ∧ k < n) (hb : ¬ isBl (f k.toNat)) (hr : RunE f n k e) (hg : SgP f k e g) (hv : g = 2 → v = wh f k (e - k).toNat) (hv2 : g ≠ 2 → v = 0) (h1 : g ≠ 1) : CutI f (updI S mm.toNat g) (updI P mm.toNat k) (updI V mm.toNat v) n e k' (mm + 1) := by
  obtain ⟨st, m, e0, q1, q2, q3, q4, q5⟩ := i
  subst e0
  rw [Int.toNat_natCast]
  have re := hr.1
  refine ⟨updI st (m + 1) e, m + 1, by omega, by omega, tks_add q2 (by rw [q3]; exact cut_tk hbk q4 hb hr hg hv hv2), if_pos rfl, fun q q0 qk => by omega, fun i hi => ?_⟩
  by_cases c : i = m
  · subst c; rw [show updI S i g i = g from if_pos rfl]; exact h1
  · rw [show updI S m g i = S i from if_neg c]; exact q5 i (by omega)
theorem cut_end {f S P V : Nat → Int} {n b k mm x y : Int} (i : CutI f S P V n b k mm) (hk : n ≤ k) (hx : x = n) (hy : y = 0) : CutP f (updI S mm.toNat 0) (updI P mm.toNat x) (updI V mm.toNat y) n (mm + 1) := by
  obtain ⟨st, m, e0, q1, q2, q3, q4, q5⟩ := i
  subst e0; subst hx; subst hy
  rw [Int.toNat_natCast]
  refine ⟨st, m, rfl, by omega, tks_end q2, ⟨if_pos rfl, if_pos rfl, if_pos rfl⟩, Or.inl ⟨fun i hi => ?_, by omega, fun q q0 q1 => q4 q (by omega) (by omega)⟩⟩
  rw [show updI S m 0 i = S i from if_neg (by omega)]; exact q5 i hi
theorem cut_bad {f S P V : Nat → Int} {n b k mm e g v x y : Int} (i : CutI f S P V n b k mm) (hbk : b ≤ k ∧ k < n) (hb : ¬ isBl (f k.toNat)) (hr : RunE f n k e) (hg : SgP f k e g) (hv : g = 2 → v = wh f k (e - k).toNat) (hv2 : g ≠ 2 → v = 0) (h1 : g = 1) (hx : x = n) (hy : y = 0) : CutP f (updI (updI S mm.toNat g) (mm + 1).toNat 0) (updI (updI P mm.toNat k) (mm + 1).toNat x) (updI (updI V mm.toNat v) (mm + 1).toNat y) n (mm + 1 + 1) := by
  obtain ⟨st, m, e0, q1, q2, q3, q4, q5⟩ := i
  subst e0; subst hx; subst hy
  rw [Int.toNat_natCast, show ((m : Int) + 1).toNat = m + 1 by omega]
  have re := hr.1
  refine ⟨updI st (m + 1) e, m + 1, by omega, by omega, tks_end (tks_add q2 (by rw [q3]; exact cut_tk hbk q4 hb hr hg hv hv2)), ⟨if_pos rfl, if_pos rfl, if_pos rfl⟩, Or.inr ⟨m, rfl, fun i hi => ?_, ?_⟩⟩
  · rw [show updI (updI S m g) (m + 1) 0 i = updI S m g i from if_neg (by omega), show updI S m g i = S i from if_neg (by omega)]; exact q5 i hi
  · rw [show updI (updI S m g) (m + 1) 0 m = updI S m g m from if_neg (by omega), show updI S m g m = g from if_pos rfl]; exact h1
theorem wh_dig {f : Nat → Int} {a : Int} : ∀ n : Nat, (∀ i : Int, 0 ≤ i → i < n → isDi (f (a + i).toNat)) → 0 ≤ wh f a n ∧ wh f a n < 10 ^ n
  | 0, _ => ⟨Int.le_refl 0, show (0 : Int) < 1 by decide⟩
  | n + 1, h => by
    have ih := wh_dig n (fun i i0 i1 => h i i0 (by omega))
    have d := h n (by omega) (by omega)
    show 0 ≤ 10 * wh f a n + f (a + n).toNat - 48 ∧ 10 * wh f a n + f (a + n).toNat - 48 < 10 ^ (n + 1)
    rw [Int.pow_succ]
    omega
theorem sg_whole {f : Nat → Int} {n a e : Int} (hr : RunE f n a e) (hg : SgP f a e 2) : isDi (f a.toNat) ∧ e - a ≤ 3 := by
  rcases hg.2 with ⟨q1, q2⟩ | ⟨q1, q2 | ⟨q2, k, q3, q4⟩⟩
  · exact ⟨q1, by omega⟩
  · omega
  · rcases q4 with ⟨k0, q4⟩ | ⟨k0, q4⟩
    · exfalso
      subst q4
      have := (q3.elim (fun z => z.2.2.1) (fun z => by omega)).1
      have r1 := hr.1.1
      rw [show wl (Int.toNat 2) = 0 from rfl] at this; omega
    · omega
theorem whole_bd {f : Nat → Int} {n a e : Int} (hr : RunE f n a e) (hg : SgP f a e 2) : 0 ≤ wh f a (e - a).toNat ∧ wh f a (e - a).toNat ≤ 999 := by
  obtain ⟨d, l⟩ := sg_whole hr hg
  obtain ⟨r1, r2⟩ := hr
  have hd : ∀ i : Int, 0 ≤ i → i < (e - a).toNat → isDi (f (a + i).toNat) := fun i i0 i1 => by
    rcases r2 with ⟨c1, c2, c3⟩ | ⟨c1, c2, c3⟩
    · exact absurd d c2
    · exact (c2 (a + i) (by omega) (by omega)).2.mpr d
  have q := wh_dig (e - a).toNat hd
  rcases (show (e - a).toNat = 1 ∨ (e - a).toNat = 2 ∨ (e - a).toNat = 3 by omega) with c | c | c <;> rw [c] at q ⊢ <;> simp at q <;> omega
theorem wsg {f : Nat → Int} {a e g : Int} (h : SgP f a e g) (hg : g = 2) : SgP f a e 2 := hg ▸ h
abbrev kX6_cut : Kd := (cX6_cut, .code yX6_cut cX6_cut 6 none :: wsL_law0, rmL 8, RX6, none, 6)
theorem ct_X6_cut : Ct kX6_cut yX6_cut (fun a hi Q => ∃ n : Int, a = [AR 30, AI n] ∧ ((0 ≤ hi 29 1 ∧ hi 29 1 ≤ 600) ∧ 0 ≤ n ∧ n ≤ hi 29 1) ∧ ∀ h2 : HI, (Fr [29, 31, 32, 33] hi h2 ∧ (CutP (hi 30) (h2 31) (h2 32) (h2 33) n (h2 29 5) ∧ h2 29 1 = 0 ∧ h2 29 6 = 0 ∧ h2 29 7 = 0 ∧ h2 29 8 = 0)) → Q AU h2) := by
  refine Ct.of (ws' := _) (by decide +kernel) rfl rfl ?_
  intro a hi Q hT
  obtain ⟨n, rfl, hpre, hQ⟩ := hT
  refine ⟨Nat.le_of_ble_eq_true rfl, ?_⟩
  show Z kX6_cut Q 0 [(0, AR 30), (1, AI n)] [] hi
  refine z_iconst (pc := 0) (v := 0) dX6_cut_0 rfl ?_
  refine z_iload_n (pc := 1) dX6_cut_1 rfl 1 rfl ?_
  refine z_aload_n (pc := 2) (x := 30) dX6_cut_2 rfl 0 rfl ?_
  refine z_getI (pc := 3) (pl := 29) (f := 1) (ci := 5) (C := RX6) (T := TX6) (N := 9) hu_X6 (by decide) rfl rfl (by decide) rfl (List.mem_cons_of_mem _ (iw3 _ (List.mem_of_getElem? (i := 14) rfl))) rfl (by decide) dX6_cut_3 (fun v1 ev1 rv1 => ?_)
  refine z_mmin (pc := 6) (stk := [AI 0]) ⟨by omega, by omega⟩ ⟨by omega, by omega⟩ (List.mem_cons_of_mem _ (iw18 _ (List.mem_of_getElem? (i := 10) rfl))) (List.mem_cons_of_mem _ (iw8 _ (List.mem_of_getElem? (i := 3) rfl))) (List.mem_cons_of_mem _ (iw8 _ (List.mem_of_getElem? (i := 4) rfl))) (List.mem_cons_of_mem _ (iw8 _ (List.mem_of_getElem? (i := 5) rfl))) (Nat.le_of_ble_eq_true rfl) (Nat.le_of_ble_eq_true rfl) dX6_cut_6 (fun v2 ev2 => ?_)
  refine z_mmax (pc := 9) (stk := []) ⟨by decide, by decide⟩ ⟨by omega, by omega⟩ (List.mem_cons_of_mem _ (iw18 _ (List.mem_of_getElem? (i := 11) rfl))) (List.mem_cons_of_mem _ (iw18 _ (List.mem_of_getElem? (i := 12) rfl))) (List.mem_cons_of_mem _ (iw8 _ (List.mem_of_getElem? (i := 4) rfl))) (List.mem_cons_of_mem _ (iw18 _ (List.mem_of_getElem? (i := 13) rfl))) (Nat.le_of_ble_eq_true rfl) (Nat.le_of_ble_eq_true rfl) dX6_cut_9 (fun v3 ev3 => ?_)
  refine z_istore_n (pc := 12) (lv' := [(2, AI v3), (0, AR 30), (1, AI n)]) dX6_cut_12 rfl (by decide) rfl ?_
  refine z_aload_n (pc := 13) (x := 30) dX6_cut_13 rfl 1 rfl ?_
  refine z_iconst (pc := 14) (v := 0) dX6_cut_14 rfl ?_
  refine z_putI (pc := 15) (pl := 29) (f := 1) (ci := 5) (C := RX6) (T := TX6) (N := 9) hu_X6 tyX6_ok nmX6 (by decide) rfl rfl (by decide) rfl (List.mem_cons_of_mem _ (iw3 _ (List.mem_of_getElem? (i := 14) rfl))) rfl rfl (ty := .int) (by decide +kernel) rfl rfl ⟨by decide, by decide⟩ dX6_cut_15 (fun h4 eh4 => ?_)
  have frh4 : Fr [29, 31, 32, 33] hi h4 := (Fr.put (Fr.rf) eh4 (by decide))
  have f15 := put_at eh4
  refine z_aload_n (pc := 18) (x := 30) dX6_cut_18 rfl 1 rfl ?_
  refine z_iconst (pc := 19) (v := 0) dX6_cut_19 rfl ?_
  refine z_putI (pc := 20) (pl := 29) (f := 5) (ci := 5) (C := RX6) (T := TX6) (N := 9) hu_X6 tyX6_ok nmX6 (by decide) rfl rfl (by decide) rfl (List.mem_cons_of_mem _ (iw3 _ (List.mem_of_getElem? (i := 19) rfl))) rfl rfl (ty := .int) (by decide +kernel) rfl rfl ⟨by decide, by decide⟩ dX6_cut_20 (fun h5 eh5 => ?_)
  have frh5 : Fr [29, 31, 32, 33] hi h5 := (Fr.put frh4 eh5 (by decide))
  have f20 := put_at eh5
  refine z_aload_n (pc := 23) (x := 30) dX6_cut_23 rfl 1 rfl ?_
  refine z_iconst (pc := 24) (v := 0) dX6_cut_24 rfl ?_
  refine z_putI (pc := 25) (pl := 29) (f := 6) (ci := 5) (C := RX6) (T := TX6) (N := 9) hu_X6 tyX6_ok nmX6 (by decide) rfl rfl (by decide) rfl (List.mem_cons_of_mem _ (iw3 _ (List.mem_of_getElem? (i := 20) rfl))) rfl rfl (ty := .int) (by decide +kernel) rfl rfl ⟨by decide, by decide⟩ dX6_cut_25 (fun h6 eh6 => ?_)
  have frh6 : Fr [29, 31, 32, 33] hi h6 := (Fr.put frh5 eh6 (by decide))
  have f25 := put_at eh6
  refine z_aload_n (pc := 28) (x := 30) dX6_cut_28 rfl 1 rfl ?_
  refine z_iconst (pc := 29) (v := 0) dX6_cut_29 rfl ?_
  refine z_putI (pc := 30) (pl := 29) (f := 7) (ci := 5) (C := RX6) (T := TX6) (N := 9) hu_X6 tyX6_ok nmX6 (by decide) rfl rfl (by decide) rfl (List.mem_cons_of_mem _ (iw3 _ (List.mem_of_getElem? (i := 21) rfl))) rfl rfl (ty := .int) (by decide +kernel) rfl rfl ⟨by decide, by decide⟩ dX6_cut_30 (fun h7 eh7 => ?_)
  have frh7 : Fr [29, 31, 32, 33] hi h7 := (Fr.put frh6 eh7 (by decide))
  have f30 := put_at eh7
  refine z_aload_n (pc := 33) (x := 30) dX6_cut_33 rfl 1 rfl ?_
  refine z_iconst (pc := 34) (v := 0) dX6_cut_34 rfl ?_
  refine z_putI (pc := 35) (pl := 29) (f := 8) (ci := 5) (C := RX6) (T := TX6) (N := 9) hu_X6 tyX6_ok nmX6 (by decide) rfl rfl (by decide) rfl (List.mem_cons_of_mem _ (iw3 _ (List.mem_of_getElem? (i := 22) rfl))) rfl rfl (ty := .int) (by decide +kernel) rfl rfl ⟨by decide, by decide⟩ dX6_cut_35 (fun h8 eh8 => ?_)
  have frh8 : Fr [29, 31, 32, 33] hi h8 := (Fr.put frh7 eh8 (by decide))
  have f35 := put_at eh8
  refine z_iconst (pc := 38) (v := 0) dX6_cut_38 rfl ?_
  refine z_istore_n (pc := 39) (lv' := [(3, AI 0), (2, AI v3), (0, AR 30), (1, AI n)]) dX6_cut_39 rfl (by decide) rfl ?_
  refine z_iconst (pc := 40) (v := 0) dX6_cut_40 rfl ?_
  refine z_istore (pc := 41) (lv' := [(4, AI 0), (3, AI 0), (2, AI v3), (0, AR 30), (1, AI n)]) dX6_cut_41 (by decide) rfl ?_
  have J43 : ∀ (N : Nat) (b k : Int) (hk : HI), (0 ≤ k ∧ k ≤ n) → (CutI (hi 30) (hk 31) (hk 32) (hk 33) n b k (hk 29 5)) → (hk 29 1 = 0 ∧ hk 29 6 = 0 ∧ hk 29 7 = 0 ∧ hk 29 8 = 0) → (Fr [29, 31, 32, 33] hi hk) → ((n - k).toNat) < N → Z kX6_cut Q 43 [(4, AI k), (3, AI b), (2, AI v3), (0, AR 30), (1, AI n)] [] hk := by
    intro N
    induction N with
    | zero => intro b k hk _ _ _ _ _; exact absurd (by assumption) (Nat.not_lt_zero _)
    | succ N ih43 =>
      intro b k hk i0 i1 i2 frlhk hm43
      have bd := i1.bd
      refine z_iload (pc := 43) dX6_cut_43 0 rfl ?_
      refine z_iload_n (pc := 45) dX6_cut_45 rfl 2 rfl ?_
      refine z_icmp_ge (pc := 46) (tgt := 131) dX6_cut_46 (by decide) ⟨by omega, by omega⟩ ⟨by omega, by omega⟩ (fun c9 => ?_) (fun c9 => ?_)
      · refine z_aload_n (pc := 131) (x := 30) dX6_cut_131 rfl 3 rfl ?_
        refine z_getstE (pc := 132) (i := 0) (z := 0) (by decide) rfl (List.mem_cons_of_mem _ (iw18 _ (List.mem_of_getElem? (i := 16) rfl))) dX6_cut_132 ?_
        refine z_iload_n (pc := 135) dX6_cut_135 rfl 2 rfl ?_
        refine z_iconst (pc := 136) (v := 0) dX6_cut_136 rfl ?_
        refine z_callV (pc := 137) (kc := kX6_addToken) (n := 3) (pl := 29) (ci := 5) (C := RX6) (As := [AR (ec 0), AI v3, AI 0]) (stk := []) ct_X6_addToken (gdV rfl rfl (iw22 _ (List.mem_of_getElem? (i := 1) rfl)) (iw22 _ (List.mem_of_getElem? (i := 2) rfl)) (iw22 _ (List.mem_of_getElem? (i := 3) rfl)) (iw2 _ (List.mem_of_getElem? (i := 4) rfl)) (iw22 _ (List.mem_of_getElem? (i := 4) rfl))) rfl ⟨rfl, rfl⟩ (by decide +kernel) ⟨by decide, by decide⟩ (by decide) rfl rfl dX6_cut_137 rfl rfl (Nat.le_of_ble_eq_true rfl) ?_
        refine ⟨_, _, _, rfl, ⟨by omega, by omega, by omega, by omega⟩, fun h10 eh10 => ?_⟩
        have frh10 : Fr [29, 31, 32, 33] hi h10 := (Fr.call frlhk eh10.1 (by decide))
        have a137 := eh10.2
        refine z_vret (pc := 140) rfl dX6_cut_140 ?_
        exact hQ h10 ⟨frh10, by first | exact ⟨by rw [a137.1, a137.2.1, a137.2.2.1, a137.2.2.2]; exact cut_end i1 (by omega) (by omega) rfl, by rw [a137.2.2.2]; exact i2⟩ | exact ⟨by rw [a137.1, a137.2.1, a137.2.2.1, a137.2.2.2, a111.1, a111.2.1, a111.2.2.1, m111]; exact cut_bad i1 (by omega) (bF b61 (by omega)) r74 s82 (by first | (intro _; exact w104) | omega) (by omega) (by omega) (by omega) rfl, by rw [a137.2.2.2, a111.2.2.2]; exact i2⟩⟩
      · refine z_iload (pc := 49) dX6_cut_49 0 rfl ?_
        refine z_iload_n (pc := 51) dX6_cut_51 rfl 1 rfl ?_
        refine z_icmp_lt (pc := 52) (tgt := 125) dX6_cut_52 (by decide) ⟨by omega, by omega⟩ ⟨by omega, by omega⟩ (fun c11 => ?_) (fun c11 => ?_)
        · refine z_iinc (pc := 125) (j := 0) (w := fun q => (4, AI q) :: [(3, AI b), (2, AI v3), (0, AR 30), (1, AI n)]) dX6_cut_125 rfl (by decide) (fun _ => rfl) (fun v12 ev12 => ?_)
          refine z_goto (pc := 128) (tgt := 43) dX6_cut_128 (by decide) ?_
          exact ih43 b v12 hk (by omega) (by first | exact cut_skip (by omega) (Or.inl (by omega)) i1 | exact cut_skip (by omega) (Or.inr (bT b61 (by omega))) i1 | (rw [a111.1, a111.2.1, a111.2.2.1, m111]; exact cut_tok (by omega) i1 (by omega) (bF b61 (by omega)) r74 s82 (by first | (intro _; exact w104) | omega) (by omega) (by omega))) (by first | exact i2 | (rw [a111.2.2.2]; exact i2)) (frlhk) (by omega)
        · refine z_aload_n (pc := 55) (x := 30) dX6_cut_55 rfl 3 rfl ?_
          refine z_iload (pc := 56) dX6_cut_56 0 rfl ?_
          refine z_callV (pc := 58) (kc := kX6_byteAt) (n := 1) (pl := 29) (ci := 5) (C := RX6) (As := [AI k]) (stk := []) ct_X6_byteAt (gdV rfl rfl (iw18 _ (List.mem_of_getElem? (i := 17) rfl)) (iw18 _ (List.mem_of_getElem? (i := 18) rfl)) (iw18 _ (List.mem_of_getElem? (i := 19) rfl)) (iw2 _ (List.mem_of_getElem? (i := 4) rfl)) (iw18 _ (List.mem_of_getElem? (i := 20) rfl))) rfl ⟨rfl, rfl⟩ (by decide +kernel) ⟨by decide, by decide⟩ (by decide) rfl rfl dX6_cut_58 rfl rfl (Nat.le_of_ble_eq_true rfl) ?_
          refine ⟨_, rfl, by omega, fun v13 ev13 => ?_⟩
          try rw [(frlhk 30 (by decide) : hk 30 = hi 30)] at ev13
          have w58 := ev13
          refine z_callS (pc := 61) (kc := kX6_isBlank) (n := 1) (As := [AI v13]) (stk := []) ct_X6_isBlank (gdS rfl rfl (iw18 _ (List.mem_of_getElem? (i := 21) rfl)) (iw18 _ (List.mem_of_getElem? (i := 22) rfl)) (iw2 _ (List.mem_of_getElem? (i := 4) rfl)) (iw18 _ (List.mem_of_getElem? (i := 23) rfl))) rfl ⟨rfl, rfl⟩ (by decide +kernel) ⟨by decide, by decide⟩ dX6_cut_61 rfl rfl (Nat.le_of_ble_eq_true rfl) ?_
          refine ⟨_, rfl, by omega, fun v14 ev14 => ?_⟩
          have b61 := ev14
          rw [w58.1] at b61
          refine z_if_eq (pc := 64) (tgt := 70) dX6_cut_64 (by decide) ⟨by omega, by omega⟩ (fun c15 => ?_) (fun c15 => ?_)
          · refine z_aload_n (pc := 70) (x := 30) dX6_cut_70 rfl 3 rfl ?_
            refine z_iload (pc := 71) dX6_cut_71 0 rfl ?_
            refine z_iload_n (pc := 73) dX6_cut_73 rfl 2 rfl ?_
            refine z_callV (pc := 74) (kc := kX6_endOfRun) (n := 2) (pl := 29) (ci := 5) (C := RX6) (As := [AI k, AI v3]) (stk := []) ct_X6_endOfRun (gdV rfl rfl (iw19 _ (List.mem_of_getElem? (i := 0) rfl)) (iw19 _ (List.mem_of_getElem? (i := 1) rfl)) (iw19 _ (List.mem_of_getElem? (i := 2) rfl)) (iw2 _ (List.mem_of_getElem? (i := 4) rfl)) (iw19 _ (List.mem_of_getElem? (i := 3) rfl))) rfl ⟨rfl, rfl⟩ (by decide +kernel) ⟨by decide, by decide⟩ (by decide) rfl rfl dX6_cut_74 rfl rfl (Nat.le_of_ble_eq_true rfl) ?_
            refine ⟨_, _, rfl, by omega, fun v16 ev16 => ?_⟩
            try rw [(frlhk 30 (by decide) : hk 30 = hi 30)] at ev16
            have r74 := ev16
            rw [show v3 = n by omega] at r74
            have z74 := r74.1
            refine z_istore_n (pc := 77) (lv' := [(3, AI v16), (4, AI k), (2, AI v3), (0, AR 30), (1, AI n)]) dX6_cut_77 rfl (by decide) rfl ?_
            refine z_aload_n (pc := 78) (x := 30) dX6_cut_78 rfl 3 rfl ?_
            refine z_iload (pc := 79) dX6_cut_79 1 rfl ?_
            refine z_iload_n (pc := 81) dX6_cut_81 rfl 0 rfl ?_
            refine z_callV (pc := 82) (kc := kX6_signOf) (n := 2) (pl := 29) (ci := 5) (C := RX6) (As := [AI k, AI v16]) (stk := []) ct_X6_signOf (gdV rfl rfl (iw19 _ (List.mem_of_getElem? (i := 10) rfl)) (iw19 _ (List.mem_of_getElem? (i := 11) rfl)) (iw19 _ (List.mem_of_getElem? (i := 12) rfl)) (iw2 _ (List.mem_of_getElem? (i := 4) rfl)) (iw19 _ (List.mem_of_getElem? (i := 13) rfl))) rfl ⟨rfl, rfl⟩ (by decide +kernel) ⟨by decide, by decide⟩ (by decide) rfl rfl dX6_cut_82 rfl rfl (Nat.le_of_ble_eq_true rfl) ?_
            refine ⟨_, _, rfl, by omega, fun v17 ev17 => ?_⟩
            try rw [(frlhk 30 (by decide) : hk 30 = hi 30)] at ev17
            have s82 := ev17
            have g82 := ev17.1
            refine z_astore (pc := 85) (lv' := [(5, AR (ec v17)), (3, AI v16), (4, AI k), (2, AI v3), (0, AR 30), (1, AI n)]) dX6_cut_85 (by decide) (by unfold ec; split <;> omega) rfl ?_
            refine z_aload_n (pc := 87) (x := 30) dX6_cut_87 rfl 4 rfl ?_
            refine z_aload (pc := 88) (x := (ec v17)) dX6_cut_88 0 rfl ?_
            refine z_iload (pc := 90) dX6_cut_90 2 rfl ?_
            refine z_aload (pc := 92) (x := (ec v17)) dX6_cut_92 0 rfl ?_
            refine z_getstE (pc := 94) (i := 2) (z := 2) (by decide) rfl (List.mem_cons_of_mem _ (iw18 _ (List.mem_of_getElem? (i := 14) rfl))) dX6_cut_94 ?_
            refine z_acmp_ne (pc := 97) (tgt := 110) dX6_cut_97 (by decide) (by omega) (by omega) (fun c18 => ?_) (fun c18 => ?_)
            · refine z_iconst (pc := 110) (v := 0) dX6_cut_110 rfl ?_
              refine z_callV (pc := 111) (kc := kX6_addToken) (n := 3) (pl := 29) (ci := 5) (C := RX6) (As := [AR (ec v17), AI k, AI 0]) (stk := []) ct_X6_addToken (gdV rfl rfl (iw22 _ (List.mem_of_getElem? (i := 1) rfl)) (iw22 _ (List.mem_of_getElem? (i := 2) rfl)) (iw22 _ (List.mem_of_getElem? (i := 3) rfl)) (iw2 _ (List.mem_of_getElem? (i := 4) rfl)) (iw22 _ (List.mem_of_getElem? (i := 4) rfl))) rfl ⟨rfl, rfl⟩ (by decide +kernel) ⟨by decide, by decide⟩ (by decide) rfl rfl dX6_cut_111 rfl rfl (Nat.le_of_ble_eq_true rfl) ?_
              refine ⟨_, _, _, rfl, ⟨by omega, g82, by omega, by omega⟩, fun h19 eh19 => ?_⟩
              have frh19 : Fr [29, 31, 32, 33] hi h19 := (Fr.call frlhk eh19.1 (by decide))
              have a111 := eh19.2
              have m111 : h19 29 5 = hk 29 5 + 1 := by rw [a111.2.2.2]; rfl
              refine z_aload (pc := 114) (x := (ec v17)) dX6_cut_114 0 rfl ?_
              refine z_getstE (pc := 116) (i := 1) (z := 1) (by decide) rfl (List.mem_cons_of_mem _ (iw18 _ (List.mem_of_getElem? (i := 15) rfl))) dX6_cut_116 ?_
              refine z_acmp_ne (pc := 119) (tgt := 125) dX6_cut_119 (by decide) (by omega) (by omega) (fun c20 => ?_) (fun c20 => ?_)
              · refine z_iinc (pc := 125) (j := 2) (w := fun q => (4, AI q) :: [(5, AR (ec v17)), (3, AI v16), (2, AI v3), (0, AR 30), (1, AI n)]) dX6_cut_125 rfl (by decide) (fun _ => rfl) (fun v21 ev21 => ?_)
                refine z_goto (pc := 128) (tgt := 43) dX6_cut_128 (by decide) ?_
                refine z_sub (lv' := [(4, AI v21), (3, AI v16), (2, AI v3), (0, AR 30), (1, AI n)]) [0, 2, 3, 4, 5] rfl ?_
                exact ih43 v16 v21 h19 (by omega) (by first | exact cut_skip (by omega) (Or.inl (by omega)) i1 | exact cut_skip (by omega) (Or.inr (bT b61 (by omega))) i1 | (rw [a111.1, a111.2.1, a111.2.2.1, m111]; exact cut_tok (by omega) i1 (by omega) (bF b61 (by omega)) r74 s82 (by first | (intro _; exact w104) | omega) (by omega) (by omega))) (by first | exact i2 | (rw [a111.2.2.2]; exact i2)) (frh19) (by omega)
              · refine z_goto (pc := 122) (tgt := 131) dX6_cut_122 (by decide) ?_
                refine z_aload_n (pc := 131) (x := 30) dX6_cut_131 rfl 4 rfl ?_
                refine z_getstE (pc := 132) (i := 0) (z := 0) (by decide) rfl (List.mem_cons_of_mem _ (iw18 _ (List.mem_of_getElem? (i := 16) rfl))) dX6_cut_132 ?_
                refine z_iload_n (pc := 135) dX6_cut_135 rfl 3 rfl ?_
                refine z_iconst (pc := 136) (v := 0) dX6_cut_136 rfl ?_
                refine z_callV (pc := 137) (kc := kX6_addToken) (n := 3) (pl := 29) (ci := 5) (C := RX6) (As := [AR (ec 0), AI v3, AI 0]) (stk := []) ct_X6_addToken (gdV rfl rfl (iw22 _ (List.mem_of_getElem? (i := 1) rfl)) (iw22 _ (List.mem_of_getElem? (i := 2) rfl)) (iw22 _ (List.mem_of_getElem? (i := 3) rfl)) (iw2 _ (List.mem_of_getElem? (i := 4) rfl)) (iw22 _ (List.mem_of_getElem? (i := 4) rfl))) rfl ⟨rfl, rfl⟩ (by decide +kernel) ⟨by decide, by decide⟩ (by decide) rfl rfl dX6_cut_137 rfl rfl (Nat.le_of_ble_eq_true rfl) ?_
                refine ⟨_, _, _, rfl, ⟨by omega, by omega, by omega, by omega⟩, fun h22 eh22 => ?_⟩
                have frh22 : Fr [29, 31, 32, 33] hi h22 := (Fr.call frh19 eh22.1 (by decide))
                have a137 := eh22.2
                refine z_vret (pc := 140) rfl dX6_cut_140 ?_
                exact hQ h22 ⟨frh22, by first | exact ⟨by rw [a137.1, a137.2.1, a137.2.2.1, a137.2.2.2]; exact cut_end i1 (by omega) (by omega) rfl, by rw [a137.2.2.2]; exact i2⟩ | exact ⟨by rw [a137.1, a137.2.1, a137.2.2.1, a137.2.2.2, a111.1, a111.2.1, a111.2.2.1, m111]; exact cut_bad i1 (by omega) (bF b61 (by omega)) r74 s82 (by first | (intro _; exact w104) | omega) (by omega) (by omega) (by omega) rfl, by rw [a137.2.2.2, a111.2.2.2]; exact i2⟩⟩
            · refine z_aload_n (pc := 100) (x := 30) dX6_cut_100 rfl 4 rfl ?_
              refine z_iload (pc := 101) dX6_cut_101 2 rfl ?_
              refine z_iload_n (pc := 103) dX6_cut_103 rfl 1 rfl ?_
              refine z_callV (pc := 104) (kc := kX6_wholeOf) (n := 2) (pl := 29) (ci := 5) (C := RX6) (As := [AI k, AI v16]) (stk := [AI k, AR (ec v17), AR 30]) ct_X6_wholeOf (gdV rfl rfl (iw21 _ (List.mem_of_getElem? (i := 21) rfl)) (iw21 _ (List.mem_of_getElem? (i := 22) rfl)) (iw21 _ (List.mem_of_getElem? (i := 23) rfl)) (iw2 _ (List.mem_of_getElem? (i := 4) rfl)) (iw22 _ (List.mem_of_getElem? (i := 0) rfl))) rfl ⟨rfl, rfl⟩ (by decide +kernel) ⟨by decide, by decide⟩ (by decide) rfl rfl dX6_cut_104 rfl rfl (Nat.le_of_ble_eq_true rfl) ?_
              refine ⟨_, _, rfl, by omega, fun v23 ev23 => ?_⟩
              try rw [(frlhk 30 (by decide) : hk 30 = hi 30)] at ev23
              have w104 := ev23
              have bw := whole_bd r74 (wsg s82 (by omega))
              refine z_goto (pc := 107) (tgt := 111) dX6_cut_107 (by decide) ?_
              refine z_callV (pc := 111) (kc := kX6_addToken) (n := 3) (pl := 29) (ci := 5) (C := RX6) (As := [AR (ec v17), AI k, AI v23]) (stk := []) ct_X6_addToken (gdV rfl rfl (iw22 _ (List.mem_of_getElem? (i := 1) rfl)) (iw22 _ (List.mem_of_getElem? (i := 2) rfl)) (iw22 _ (List.mem_of_getElem? (i := 3) rfl)) (iw2 _ (List.mem_of_getElem? (i := 4) rfl)) (iw22 _ (List.mem_of_getElem? (i := 4) rfl))) rfl ⟨rfl, rfl⟩ (by decide +kernel) ⟨by decide, by decide⟩ (by decide) rfl rfl dX6_cut_111 rfl rfl (Nat.le_of_ble_eq_true rfl) ?_
              refine ⟨_, _, _, rfl, ⟨by omega, g82, by omega, by omega⟩, fun h24 eh24 => ?_⟩
              have frh24 : Fr [29, 31, 32, 33] hi h24 := (Fr.call frlhk eh24.1 (by decide))
              have a111 := eh24.2
              have m111 : h24 29 5 = hk 29 5 + 1 := by rw [a111.2.2.2]; rfl
              refine z_aload (pc := 114) (x := (ec v17)) dX6_cut_114 0 rfl ?_
              refine z_getstE (pc := 116) (i := 1) (z := 1) (by decide) rfl (List.mem_cons_of_mem _ (iw18 _ (List.mem_of_getElem? (i := 15) rfl))) dX6_cut_116 ?_
              refine z_acmp_ne (pc := 119) (tgt := 125) dX6_cut_119 (by decide) (by omega) (by omega) (fun c25 => ?_) (fun c25 => ?_)
              · refine z_iinc (pc := 125) (j := 2) (w := fun q => (4, AI q) :: [(5, AR (ec v17)), (3, AI v16), (2, AI v3), (0, AR 30), (1, AI n)]) dX6_cut_125 rfl (by decide) (fun _ => rfl) (fun v26 ev26 => ?_)
                refine z_goto (pc := 128) (tgt := 43) dX6_cut_128 (by decide) ?_
                refine z_sub (lv' := [(4, AI v26), (3, AI v16), (2, AI v3), (0, AR 30), (1, AI n)]) [0, 2, 3, 4, 5] rfl ?_
                exact ih43 v16 v26 h24 (by omega) (by first | exact cut_skip (by omega) (Or.inl (by omega)) i1 | exact cut_skip (by omega) (Or.inr (bT b61 (by omega))) i1 | (rw [a111.1, a111.2.1, a111.2.2.1, m111]; exact cut_tok (by omega) i1 (by omega) (bF b61 (by omega)) r74 s82 (by first | (intro _; exact w104) | omega) (by omega) (by omega))) (by first | exact i2 | (rw [a111.2.2.2]; exact i2)) (frh24) (by omega)
              · refine z_goto (pc := 122) (tgt := 131) dX6_cut_122 (by decide) ?_
                refine z_aload_n (pc := 131) (x := 30) dX6_cut_131 rfl 4 rfl ?_
                refine z_getstE (pc := 132) (i := 0) (z := 0) (by decide) rfl (List.mem_cons_of_mem _ (iw18 _ (List.mem_of_getElem? (i := 16) rfl))) dX6_cut_132 ?_
                refine z_iload_n (pc := 135) dX6_cut_135 rfl 3 rfl ?_
                refine z_iconst (pc := 136) (v := 0) dX6_cut_136 rfl ?_
                refine z_callV (pc := 137) (kc := kX6_addToken) (n := 3) (pl := 29) (ci := 5) (C := RX6) (As := [AR (ec 0), AI v3, AI 0]) (stk := []) ct_X6_addToken (gdV rfl rfl (iw22 _ (List.mem_of_getElem? (i := 1) rfl)) (iw22 _ (List.mem_of_getElem? (i := 2) rfl)) (iw22 _ (List.mem_of_getElem? (i := 3) rfl)) (iw2 _ (List.mem_of_getElem? (i := 4) rfl)) (iw22 _ (List.mem_of_getElem? (i := 4) rfl))) rfl ⟨rfl, rfl⟩ (by decide +kernel) ⟨by decide, by decide⟩ (by decide) rfl rfl dX6_cut_137 rfl rfl (Nat.le_of_ble_eq_true rfl) ?_
                refine ⟨_, _, _, rfl, ⟨by omega, by omega, by omega, by omega⟩, fun h27 eh27 => ?_⟩
                have frh27 : Fr [29, 31, 32, 33] hi h27 := (Fr.call frh24 eh27.1 (by decide))
                have a137 := eh27.2
                refine z_vret (pc := 140) rfl dX6_cut_140 ?_
                exact hQ h27 ⟨frh27, by first | exact ⟨by rw [a137.1, a137.2.1, a137.2.2.1, a137.2.2.2]; exact cut_end i1 (by omega) (by omega) rfl, by rw [a137.2.2.2]; exact i2⟩ | exact ⟨by rw [a137.1, a137.2.1, a137.2.2.1, a137.2.2.2, a111.1, a111.2.1, a111.2.2.1, m111]; exact cut_bad i1 (by omega) (bF b61 (by omega)) r74 s82 (by first | (intro _; exact w104) | omega) (by omega) (by omega) (by omega) rfl, by rw [a137.2.2.2, a111.2.2.2]; exact i2⟩⟩
          · refine z_goto (pc := 67) (tgt := 125) dX6_cut_67 (by decide) ?_
            refine z_iinc (pc := 125) (j := 0) (w := fun q => (4, AI q) :: [(3, AI b), (2, AI v3), (0, AR 30), (1, AI n)]) dX6_cut_125 rfl (by decide) (fun _ => rfl) (fun v28 ev28 => ?_)
            refine z_goto (pc := 128) (tgt := 43) dX6_cut_128 (by decide) ?_
            exact ih43 b v28 hk (by omega) (by first | exact cut_skip (by omega) (Or.inl (by omega)) i1 | exact cut_skip (by omega) (Or.inr (bT b61 (by omega))) i1 | (rw [a111.1, a111.2.1, a111.2.2.1, m111]; exact cut_tok (by omega) i1 (by omega) (bF b61 (by omega)) r74 s82 (by first | (intro _; exact w104) | omega) (by omega) (by omega))) (by first | exact i2 | (rw [a111.2.2.2]; exact i2)) (frlhk) (by omega)
  exact J43 _ 0 0 h8 (by omega) (cut_0 (by omega) rfl rfl (by rw [f35, f30, f25, f20]; rfl)) (by rw [f35, f30, f25, f20, f15]; exact ⟨rfl, rfl, rfl, rfl⟩) (frh8) (Nat.lt_succ_self _)

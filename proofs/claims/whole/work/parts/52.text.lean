theorem beg_fin {hi hb h2 : HI} {n : Int} (g : GoP hb h2) (fr : Fr [39] hb h2) (ff : FF 39 [10, 11, 12, 13, 14] hb h2) (e45 : hb 45 = hi 45) (e9 : hb 39 9 = n) (e11 : hb 39 11 = 0) : ∀ (S P V st : Nat → Int) (m : Nat), TC (fM hi) n S P V st m → TM h2 S P V st m 0 := fun S P V st m t => by
  refine TM.go0 (hi := hb) ?_ e11 g fr ff
  have e : fM hb = fM hi := by funext j; unfold fM; rw [e45]
  rw [e, e9]; exact t

/-- a run of lines: what was left out (how many, the first, why) -/
def rnS (r : Int × Int × Int) (k v : Int) : Int × Int × Int := if v = 0 then r else if r.1 = 0 then (1, k, v) else (r.1 + 1, r.2.1, r.2.2)
def DoL (h1 h2 : HI) (R : LR) (v : Int) : Prop := DoM h1 h2 R.2.2.1 R.2.2.2.1 R.2.2.2.2.1 R.2.2.2.2.2.1 R.2.2.2.2.2.2 v
def RunM (S P V : Nat → Int) (h0 : HI) : Nat → HI → Int × Int × Int → Prop
  | 0, h, r => EqM h0 h ∧ r = (0, -1, 0)
  | k + 1, h, r => ∃ (h1 h2 : HI) (r1 : Int × Int × Int) (v : Int), RunM S P V h0 k h1 r1 ∧ (Fr [39, 40, 41, 42] h1 h2 ∧ DoL h1 h2 (lnF S P V (cs S P V k)) v) ∧ EqM h2 h ∧ r = rnS r1 k v
theorem RunM.mx {S P V : Nat → Int} {h0 : HI} (hm : MX h0) : ∀ {k : Nat} {h : HI} {r : Int × Int × Int}, RunM S P V h0 k h r → MX h
  | 0, _, _, q => hm.eq q.1
  | _ + 1, _, _, ⟨_, _, _, _, a, ⟨b, c⟩, d, _⟩ => (DoM.mx (RunM.mx hm a) c b).eq d
theorem RunM.bd {S P V : Nat → Int} {h0 : HI} : ∀ {k : Nat} {h : HI} {r : Int × Int × Int}, RunM S P V h0 k h r → 0 ≤ r.1 ∧ r.1 ≤ k
  | 0, _, _, q => by rw [q.2]; decide
  | k + 1, _, _, ⟨_, _, r1, v, a, _, _, e⟩ => by
    have := RunM.bd a
    rw [e]; unfold rnS
    split
    · omega
    · split
      · show 0 ≤ (1 : Int) ∧ (1 : Int) ≤ _; omega
      · show 0 ≤ r1.1 + 1 ∧ r1.1 + 1 ≤ _; omega
/-- a text in the plain form -/
def TxtM (hi h2 : HI) (S P V : Nat → Int) (n v : Int) : Prop := (v = -1 ∧ ¬ (0 ≤ n ∧ n ≤ hi 39 8) ∧ h2 = Z0 hi) ∨ ((0 ≤ n ∧ n ≤ hi 39 8) ∧ h2 39 8 = 0 ∧ ∃ L : Nat, LnOK S P V L ∧ ((S (cs S P V L) ≠ 0 ∧ (∃ p, lnF S P V (cs S P V L) = flL p ∧ v = -2 - p) ∧ EqM hi h2 ∧ h2 39 21 = hi 39 21 ∧ h2 48 = hi 48) ∨ (S (cs S P V L) = 0 ∧ L < 600 ∧ ∃ r, RunM S P V hi L h2 r ∧ h2 39 21 = 1 ∧ h2 48 0 = L ∧ h2 48 1 = r.1 ∧ h2 48 2 = r.2.1 ∧ h2 48 3 = r.2.2 ∧ v = L - r.1)))
/-- L lines are laid -/
def LnI (S P V : Nat → Int) (h : HI) (L : Nat) : Prop := ∀ i, i < L → S (cs S P V i) ≠ 0 ∧ ∃ ve n h0 o w, lnF S P V (cs S P V i) = okL (cs S P V (i + 1)) ve n h0 o w ∧ LM (h 46) (h 47) i ve n h0 o w
theorem LnI.ok {S P V : Nat → Int} {h : HI} {L : Nat} (q : LnI S P V h L) : LnOK S P V L := fun i hi => by
  obtain ⟨a, ve, n, h0, o, w, e, -⟩ := q i hi
  exact ⟨a, by rw [e]; rfl⟩
theorem LnI.len {S P V st f : Nat → Int} {n0 : Int} {m : Nat} {h : HI} {L : Nat} (q : LnI S P V h L) (t : TC f n0 S P V st m) : cs S P V L ≤ m ∧ 3 * (L : Int) ≤ P (cs S P V L) := chain_len t L (fun i hi => by
  obtain ⟨a, ve, n, h0, o, w, e, -⟩ := q i hi
  exact ⟨ve, n, h0, o, w, e⟩)
theorem LM.kp {f46 f47 g46 g47 : Nat → Int} {i L : Int} {ve n h o w : Int} (q : LM f46 f47 i ve n h o w) (hi : 0 ≤ i ∧ i < L) (e47 : L4 f47 g47 L) (e46 : ∀ j : Nat, (j : Int) < L → g46 j = f46 j) : LM g46 g47 i ve n h o w := by
  have a := e46 i.toNat (by omega)
  have b0 := e47 i 0 hi.1 hi.2 (by decide) (by decide)
  have b1 := e47 i 1 hi.1 hi.2 (by decide) (by decide)
  have b2 := e47 i 2 hi.1 hi.2 (by decide) (by decide)
  have b3 := e47 i 3 hi.1 hi.2 (by decide) (by decide)
  unfold LM at q ⊢
  rw [a, b0, b1, b2, b3]; exact q
theorem ln_step {S P V : Nat → Int} {h h2 : HI} {L c2 : Nat} {z ve n h0 o w : Int} (q : LnI S P V h L) (hz : z = L) (hs : S (cs S P V L) ≠ 0) (e : lnF S P V (cs S P V L) = seF S P c2 ve n h0 o w) (h11 : S c2 = 11) (lm : LM (h2 46) (h2 47) z ve n h0 o w) (e47 : L4 (h 47) (h2 47) z) (e46 : ∀ j : Nat, (j : Int) < z → h2 46 j = h 46 j) : LnI S P V h2 (L + 1) ∧ cs S P V (L + 1) = c2 + 1 := by
  subst hz
  have e1 : seF S P c2 ve n h0 o w = okL (c2 + 1) ve n h0 o w := by unfold seF; rw [if_pos h11]
  have e2 : cs S P V (L + 1) = c2 + 1 := by
    show (lnF S P V (cs S P V L)).2.1.toNat = c2 + 1
    rw [e, e1]; rfl
  refine ⟨fun i hi => ?_, e2⟩
  by_cases c : i = L
  · subst c
    exact ⟨hs, ve, n, h0, o, w, by rw [e, e1, e2], lm⟩
  · obtain ⟨a, ve', n', h', o', w', e', l'⟩ := q i (by omega)
    exact ⟨a, ve', n', h', o', w', e', l'.kp (by omega) e47 e46⟩
theorem LnI.kp {S P V : Nat → Int} {h h2 : HI} {L : Nat} (q : LnI S P V h L) (e46 : h2 46 = h 46) (e47 : h2 47 = h 47) : LnI S P V h2 L := fun i hi => by
  rw [e46, e47]; exact q i hi
theorem se_flt {S P V : Nat → Int} {c c2 : Nat} {ve n h o w : Int} (e : lnF S P V c = seF S P c2 ve n h o w) (h11 : ¬ S c2 = 11) : lnF S P V c = flL (P c2) := by
  rw [e]; unfold seF; rw [if_neg h11]
theorem run_0m {S P V : Nat → Int} {hi h : HI} (e : EqM hi h) {r : Int × Int × Int} (hr : r = (0, -1, 0)) : RunM S P V hi 0 h r := ⟨e, hr⟩
theorem EqM.of {hi h : HI} (e6 : h 39 6 = hi 39 6) (e40 : h 40 = hi 40) (e42 : h 42 = hi 42) (f : Fr [39, 40, 41, 42, 46, 47, 48] hi h) : EqM hi h := ⟨e6, e40, e42, f 43 (by decide), f 44 (by decide)⟩
theorem EqM.of2 {hi h : HI} (e6 : h 39 6 = hi 39 6) (e40 : h 40 = hi 40) (e42 : h 42 = hi 42) (e43 : h 43 = hi 43) (e44 : h 44 = hi 44) : EqM hi h := ⟨e6, e40, e42, e43, e44⟩
/-- the counts of a run, as they are kept -/
abbrev RanI (f : Nat → Int) (r : Int × Int × Int) : Prop := f 1 = r.1 ∧ f 2 = r.2.1 ∧ f 3 = r.2.2
theorem ran_0 {f : Nat → Int} {r : Int × Int × Int} {k v : Int} (h : RanI f r) (e : v = 0) : RanI f (rnS r k v) := by unfold rnS; rw [if_pos e]; exact h
theorem ran_1 {f g : Nat → Int} {r : Int × Int × Int} {k v a b c : Int} (h : RanI f r) (hv : v ≠ 0) (e : g 1 = a ∧ g 2 = b ∧ g 3 = c) (ha : a = f 1 + 1) (hbc : (f 1 = 0 ∧ b = k ∧ c = v) ∨ (f 1 ≠ 0 ∧ b = f 2 ∧ c = f 3)) : RanI g (rnS r k v) := by
  obtain ⟨h1, h2, h3⟩ := h
  obtain ⟨e1, e2, e3⟩ := e
  unfold rnS
  rw [if_neg hv]
  rcases hbc with ⟨q1, q2, q3⟩ | ⟨q1, q2, q3⟩
  · rw [if_pos (by omega)]
    exact ⟨by rw [e1, ha, q1]; rfl, by rw [e2]; exact q2, by rw [e3]; exact q3⟩
  · rw [if_neg (by omega)]
    exact ⟨by rw [e1, ha, h1], by rw [e2, q2]; exact h2, by rw [e3, q3]; exact h3⟩

theorem TC.p_bd {f : Nat → Int} {n : Int} {S P V st : Nat → Int} {m c : Nat} (h : TC f n S P V st m) (hc : c ≤ m) : 0 ≤ P c ∧ P c ≤ n := by
  rcases Nat.lt_or_eq_of_le hc with q | q
  · have := h.pl q; have := h.st_bd hc; omega
  · rw [q, h.2.2.1.2.1]; have := h.1; omega
theorem runM_step {S P V : Nat → Int} {h0 h h1 h2 : HI} {k k' v : Int} {r : Int × Int × Int} (hk : k' = k + 1) (k0 : 0 ≤ k) (q : RunM S P V h0 k.toNat h r) (f : Fr [39, 40, 41, 42] h h1) (d : DoL h h1 (lnF S P V (cs S P V k.toNat)) v) (e : EqM h1 h2) : RunM S P V h0 k'.toNat h2 (rnS r k v) := by
  rw [show k'.toNat = k.toNat + 1 by omega]
  exact ⟨h, h1, r, v, q, ⟨f, d⟩, e, by rw [show ((k.toNat : Nat) : Int) = k by omega]⟩
theorem EqM.put48 {h h1 h2 : HI} (q : EqM h h1) (e39 : h2 39 = h1 39) (e40 : h2 40 = h1 40) (e42 : h2 42 = h1 42) (e43 : h2 43 = h1 43) (e44 : h2 44 = h1 44) : EqM h h2 := ⟨by rw [e39]; exact q.1, by rw [e40]; exact q.2.1, by rw [e42]; exact q.2.2.1, by rw [e43]; exact q.2.2.2.1, by rw [e44]; exact q.2.2.2.2⟩
theorem EdM.rng {hi h2 : HI} {x o b d w v : Int} (e : EdM hi h2 x o b d w v) : 0 ≤ v ∧ v ≤ 6 := by
  rcases e with ⟨q, -⟩ | ⟨q, -⟩ | ⟨q, -⟩ | ⟨q, -⟩ <;> rw [q] <;> decide
theorem DoM.rng {hi h2 : HI} {ve n h o w v : Int} (e : DoM hi h2 ve n h o w v) : 0 ≤ v ∧ v ≤ 6 := by
  have lit : ∀ {a : Int}, v = a → 0 ≤ a ∧ a ≤ 6 → 0 ≤ v ∧ v ≤ 6 := fun e q => by rw [e]; exact q
  have sp : ∀ d, SpM (Z0 hi) h2 n h d w v → 0 ≤ v ∧ v ≤ 6 := fun d q => by
    rcases q with ⟨z, -⟩ | ⟨-, z⟩
    · exact lit z (by decide)
    · exact z.rng
  rcases e with ⟨-, q⟩ | ⟨-, q⟩ | ⟨-, q⟩ | ⟨-, q⟩ | ⟨-, q⟩ | ⟨-, q⟩ | ⟨-, q⟩ | ⟨-, u, -, q⟩ | ⟨-, u, -, q⟩
  · exact sp _ q
  · exact sp _ q
  · rcases q with ⟨z, -⟩ | ⟨-, k, hk, ⟨-, z, -⟩ | ⟨-, z⟩⟩
    · exact lit z (by decide)
    · exact lit z (by decide)
    · exact z.rng
  · rcases q with ⟨z, -⟩ | ⟨-, k, hk, ⟨-, z, -⟩ | ⟨-, z⟩⟩
    · exact lit z (by decide)
    · exact lit z (by decide)
    · exact z.rng
  · rcases q with ⟨z, -⟩ | ⟨-, k, hk, ⟨-, z, -⟩ | ⟨-, z⟩⟩
    · exact lit z (by decide)
    · exact lit z (by decide)
    · exact z.rng
  · rcases q with ⟨z, -⟩ | ⟨-, k, hk, ⟨-, z, -⟩ | ⟨-, ⟨z, -⟩ | ⟨-, z⟩⟩⟩
    · exact lit z (by decide)
    · exact lit z (by decide)
    · exact lit z (by decide)
    · exact z.rng
  · rcases q with ⟨z, -⟩ | ⟨-, k, hk, ⟨-, z, -⟩ | ⟨k0, ⟨z, -⟩ | ⟨z, -⟩ | ⟨z, -⟩⟩⟩ <;> exact lit z (by decide)
  · rw [q]; split <;> decide
  · rw [q]; split <;> decide

abbrev kX8_begins : Kd := (cX8_begins, .code yX8_begins cX8_begins 2 (some .boolean) :: wsL_law0, rmL 3, RX8, (some .boolean), 2)
theorem ct_X8_begins : Ct kX8_begins yX8_begins (fun a hi Q => ∃ n : Int, a = [AR 40, AI n] ∧ ((0 ≤ hi 39 8 ∧ hi 39 8 ≤ 600) ∧ inR n) ∧ ∀ (v : Int) (h2 : HI), (Fr [39] hi h2 ∧ FF 39 [0, 8, 9, 10, 11, 12, 13, 14, 15] hi h2 ∧ ((v = 0 ∧ ¬ (0 ≤ n ∧ n ≤ hi 39 8) ∧ h2 = Z0 hi) ∨ (v = 1 ∧ (0 ≤ n ∧ n ≤ hi 39 8) ∧ h2 39 8 = 0 ∧ h2 39 15 = -1 ∧ h2 39 0 = 0 ∧ ∀ (S P V st : Nat → Int) (m : Nat), TC (fM hi) n S P V st m → TM h2 S P V st m 0))) → Q (AI v) h2) := by
  refine Ct.of (ws' := _) (by decide +kernel) rfl rfl ?_
  intro a hi Q hT
  obtain ⟨n, rfl, hpre, hQ⟩ := hT
  refine ⟨Nat.le_of_ble_eq_true rfl, ?_⟩
  show Z kX8_begins Q 0 [(0, AR 40), (1, AI n)] [] hi
  refine z_aload_n (pc := 0) (x := 40) dX8_begins_0 rfl 0 rfl ?_
  refine z_iconst (pc := 1) (v := 0) dX8_begins_1 rfl ?_
  refine z_putI (pc := 2) (pl := 39) (f := 0) (ci := 7) (C := RX8) (T := TX8) (N := 33) hu_X8 tyX8_ok nmX8 (by decide) rfl rfl (by decide) rfl (List.mem_cons_of_mem _ (iw8 _ (List.mem_of_getElem? (i := 22) rfl))) rfl rfl (ty := .int) (by decide +kernel) rfl rfl ⟨by decide, by decide⟩ dX8_begins_2 (fun h1 eh1 => ?_)
  have frh1 : Fr [39] hi h1 := (Fr.put (Fr.rf) eh1 (by decide))
  have ff39h1 : FF 39 [0, 8, 9, 10, 11, 12, 13, 14, 15] hi h1 := FF.put (FF.rf) eh1 (by decide)
  have z1 : h1 = Z0 hi := eh1
  refine z_iload_n (pc := 5) dX8_begins_5 rfl 1 rfl ?_
  refine z_i2l (pc := 6) dX8_begins_6 ⟨by omega, by omega⟩ ?_
  refine z_lconst (pc := 7) (v := 0) dX8_begins_7 (by decide +kernel) ?_
  refine z_aload_n (pc := 8) (x := 40) dX8_begins_8 rfl 0 rfl ?_
  refine z_getI (pc := 9) (pl := 39) (f := 8) (ci := 7) (C := RX8) (T := TX8) (N := 33) hu_X8 (by decide) rfl rfl (by decide) rfl (List.mem_cons_of_mem _ (iw17 _ (List.mem_of_getElem? (i := 20) rfl))) rfl (by decide) dX8_begins_9 (fun v2 ev2 rv2 => ?_)
  rw [(by rw [eh1]; rfl : h1 39 8 = hi 39 8)] at ev2
  refine z_i2l (pc := 12) dX8_begins_12 ⟨by omega, by omega⟩ ?_
  refine z_callS (pc := 13) (kc := kX8_within) (n := 3) (As := [AL n, AL 0, AL v2]) (stk := []) ct_X8_within (gdS rfl rfl (iw9 _ (List.mem_of_getElem? (i := 9) rfl)) (iw9 _ (List.mem_of_getElem? (i := 10) rfl)) (iw1 _ (List.mem_of_getElem? (i := 5) rfl)) (iw9 _ (List.mem_of_getElem? (i := 11) rfl))) rfl ⟨rfl, rfl⟩ (by decide +kernel) ⟨by decide, by decide⟩ dX8_begins_13 rfl rfl (Nat.le_of_ble_eq_true rfl) ?_
  refine ⟨_, _, _, rfl, ⟨⟨by omega, by omega⟩, ⟨by decide, by decide⟩, ⟨by omega, by omega⟩⟩, fun v3 ev3 => ?_⟩
  refine z_if_ne (pc := 16) (tgt := 21) dX8_begins_16 (by decide) ⟨by omega, by omega⟩ (fun c4 => ?_) (fun c4 => ?_)
  · refine z_aload_n (pc := 21) (x := 40) dX8_begins_21 rfl 0 rfl ?_
    refine z_iload_n (pc := 22) dX8_begins_22 rfl 1 rfl ?_
    refine z_putI (pc := 23) (pl := 39) (f := 9) (ci := 7) (C := RX8) (T := TX8) (N := 33) hu_X8 tyX8_ok nmX8 (by decide) rfl rfl (by decide) rfl (List.mem_cons_of_mem _ (iw27 _ (List.mem_of_getElem? (i := 9) rfl))) rfl rfl (ty := .int) (by decide +kernel) rfl rfl ⟨by omega, by omega⟩ dX8_begins_23 (fun h5 eh5 => ?_)
    have frh5 : Fr [39] hi h5 := (Fr.put frh1 eh5 (by decide))
    have ff39h5 : FF 39 [0, 8, 9, 10, 11, 12, 13, 14, 15] hi h5 := FF.put ff39h1 eh5 (by decide)
    refine z_aload_n (pc := 26) (x := 40) dX8_begins_26 rfl 0 rfl ?_
    refine z_iconst (pc := 27) (v := 0) dX8_begins_27 rfl ?_
    refine z_putI (pc := 28) (pl := 39) (f := 8) (ci := 7) (C := RX8) (T := TX8) (N := 33) hu_X8 tyX8_ok nmX8 (by decide) rfl rfl (by decide) rfl (List.mem_cons_of_mem _ (iw17 _ (List.mem_of_getElem? (i := 20) rfl))) rfl rfl (ty := .int) (by decide +kernel) rfl rfl ⟨by decide, by decide⟩ dX8_begins_28 (fun h6 eh6 => ?_)
    have frh6 : Fr [39] hi h6 := (Fr.put frh5 eh6 (by decide))
    have ff39h6 : FF 39 [0, 8, 9, 10, 11, 12, 13, 14, 15] hi h6 := FF.put ff39h5 eh6 (by decide)
    refine z_aload_n (pc := 31) (x := 40) dX8_begins_31 rfl 0 rfl ?_
    refine z_iconst (pc := 32) (v := 0) dX8_begins_32 rfl ?_
    refine z_putI (pc := 33) (pl := 39) (f := 11) (ci := 7) (C := RX8) (T := TX8) (N := 33) hu_X8 tyX8_ok nmX8 (by decide) rfl rfl (by decide) rfl (List.mem_cons_of_mem _ (iw27 _ (List.mem_of_getElem? (i := 10) rfl))) rfl rfl (ty := .int) (by decide +kernel) rfl rfl ⟨by decide, by decide⟩ dX8_begins_33 (fun h7 eh7 => ?_)
    have frh7 : Fr [39] hi h7 := (Fr.put frh6 eh7 (by decide))
    have ff39h7 : FF 39 [0, 8, 9, 10, 11, 12, 13, 14, 15] hi h7 := FF.put ff39h6 eh7 (by decide)
    refine z_aload_n (pc := 36) (x := 40) dX8_begins_36 rfl 0 rfl ?_
    refine z_iconst (pc := 37) (v := (-1)) dX8_begins_37 rfl ?_
    refine z_putI (pc := 38) (pl := 39) (f := 15) (ci := 7) (C := RX8) (T := TX8) (N := 33) hu_X8 tyX8_ok nmX8 (by decide) rfl rfl (by decide) rfl (List.mem_cons_of_mem _ (iw27 _ (List.mem_of_getElem? (i := 3) rfl))) rfl rfl (ty := .int) (by decide +kernel) rfl rfl ⟨by decide, by decide⟩ dX8_begins_38 (fun h8 eh8 => ?_)
    have frh8 : Fr [39] hi h8 := (Fr.put frh7 eh8 (by decide))
    have ff39h8 : FF 39 [0, 8, 9, 10, 11, 12, 13, 14, 15] hi h8 := FF.put ff39h7 eh8 (by decide)
    refine z_aload_n (pc := 41) (x := 40) dX8_begins_41 rfl 0 rfl ?_
    refine z_callV (pc := 42) (kc := kX8_go) (n := 0) (pl := 39) (ci := 7) (C := RX8) (As := []) (stk := []) ct_X8_go (gdV rfl rfl (iw27 _ (List.mem_of_getElem? (i := 11) rfl)) (iw27 _ (List.mem_of_getElem? (i := 12) rfl)) (iw27 _ (List.mem_of_getElem? (i := 13) rfl)) (iw1 _ (List.mem_of_getElem? (i := 5) rfl)) (iw27 _ (List.mem_of_getElem? (i := 14) rfl))) rfl ⟨rfl, rfl⟩ (by decide +kernel) ⟨by decide, by decide⟩ (by decide) rfl rfl dX8_begins_42 rfl rfl (Nat.le_of_ble_eq_true rfl) ?_
    refine ⟨rfl, ⟨by rw [(by rw [(by rw [eh8]; rfl : h8 39 9 = h7 39 9), (by rw [eh7]; rfl : h7 39 9 = h6 39 9), (by rw [eh6]; rfl : h6 39 9 = h5 39 9), (by rw [eh5]; rfl : h5 39 9 = n)] : h8 39 9 = n)]; omega, by rw [(by rw [(by rw [eh8]; rfl : h8 39 11 = h7 39 11), (by rw [eh7]; rfl : h7 39 11 = 0)] : h8 39 11 = 0)]; decide, by rw [(by rw [(by rw [eh8]; rfl : h8 39 9 = h7 39 9), (by rw [eh7]; rfl : h7 39 9 = h6 39 9), (by rw [eh6]; rfl : h6 39 9 = h5 39 9), (by rw [eh5]; rfl : h5 39 9 = n)] : h8 39 9 = n), (by rw [(by rw [eh8]; rfl : h8 39 11 = h7 39 11), (by rw [eh7]; rfl : h7 39 11 = 0)] : h8 39 11 = 0)]; omega⟩, fun h9 eh9 => ?_⟩
    have frh9 : Fr [39] hi h9 := (Fr.call frh8 eh9.1 (by decide))
    have ff39h9 : FF 39 [0, 8, 9, 10, 11, 12, 13, 14, 15] hi h9 := FF.call ff39h8 (eh9.2.1) (by decide)
    have b42 := beg_fin eh9.2.2 eh9.1 eh9.2.1 (by rw [(by rw [eh8]; rfl : h8 45 = h7 45), (by rw [eh7]; rfl : h7 45 = h6 45), (by rw [eh6]; rfl : h6 45 = h5 45), (by rw [eh5]; rfl : h5 45 = h1 45), (by rw [eh1]; rfl : h1 45 = hi 45)] : h8 45 = hi 45) (by rw [(by rw [eh8]; rfl : h8 39 9 = h7 39 9), (by rw [eh7]; rfl : h7 39 9 = h6 39 9), (by rw [eh6]; rfl : h6 39 9 = h5 39 9), (by rw [eh5]; rfl : h5 39 9 = n)] : h8 39 9 = n) (by rw [(by rw [eh8]; rfl : h8 39 11 = h7 39 11), (by rw [eh7]; rfl : h7 39 11 = 0)] : h8 39 11 = 0)
    refine z_iconst (pc := 45) (v := 1) dX8_begins_45 rfl ?_
    refine z_zret (pc := 46) rfl (by decide) dX8_begins_46 ?_
    exact hQ 1 h9 ⟨frh9, ff39h9, by first | exact Or.inl ⟨rfl, by omega, z1⟩ | exact Or.inr ⟨rfl, by omega, by rw [(by rw [(eh9.2.1 8 (by decide) : h9 39 8 = h8 39 8), (by rw [eh8]; rfl : h8 39 8 = h7 39 8), (by rw [eh7]; rfl : h7 39 8 = h6 39 8), (by rw [eh6]; rfl : h6 39 8 = 0)] : h9 39 8 = 0)], by rw [(by rw [(eh9.2.1 15 (by decide) : h9 39 15 = h8 39 15), (by rw [eh8]; rfl : h8 39 15 = -1)] : h9 39 15 = -1)], by rw [(by rw [(eh9.2.1 0 (by decide) : h9 39 0 = h8 39 0), (by rw [eh8]; rfl : h8 39 0 = h7 39 0), (by rw [eh7]; rfl : h7 39 0 = h6 39 0), (by rw [eh6]; rfl : h6 39 0 = h5 39 0), (by rw [eh5]; rfl : h5 39 0 = h1 39 0), (by rw [eh1]; rfl : h1 39 0 = 0)] : h9 39 0 = 0)], b42⟩⟩
  · refine z_iconst (pc := 19) (v := 0) dX8_begins_19 rfl ?_
    refine z_zret (pc := 20) rfl (by decide) dX8_begins_20 ?_
    exact hQ 0 h1 ⟨frh1, ff39h1, by first | exact Or.inl ⟨rfl, by omega, z1⟩ | exact Or.inr ⟨rfl, by omega, by rw [(by rw [(by rw [eh1]; rfl : h1 39 8 = hi 39 8)] : h1 39 8 = hi 39 8)], by rw [(by rw [(by rw [eh1]; rfl : h1 39 15 = hi 39 15)] : h1 39 15 = hi 39 15)], by rw [(by rw [(by rw [eh1]; rfl : h1 39 0 = 0)] : h1 39 0 = 0)], b42⟩⟩

theorem ct_X8_does2 : Ct kX8_does yX8_does (fun a hi Q => ∃ k : Int, ∃ ve : Int, ∃ n : Int, ∃ h : Int, ∃ o : Int, ∃ w : Int, a = [AR 40, AI k] ∧ (MI hi ∧ (0 ≤ k ∧ k < 200) ∧ LM (hi 46) (hi 47) k ve n h o w) ∧ ∀ (v : Int) (h2 : HI), (Fr [39, 40, 41, 42] hi h2 ∧ FF 39 [0, 6] hi h2 ∧ (DoM hi h2 ve n h o w v)) → Q (AI v) h2) := Ct.mono ct_X8_does (fun a hi Q ⟨k, ve, n, h, o, w, ha, hp, hq⟩ => ⟨k, ve, n, h, o, w, ha, hp, fun v h2 ⟨q1, q2⟩ => hq v h2 ⟨q1, q2.ff, q2⟩⟩)

abbrev kX8_text : Kd := (cX8_text, .code yX8_text cX8_text 4 (some .int) :: wsL_law0, rmL 9, RX8, (some .int), 4)
theorem ct_X8_text : Ct kX8_text yX8_text (fun a hi Q => ∃ n : Int, ∃ S : Nat → Int, ∃ P : Nat → Int, ∃ V : Nat → Int, ∃ st : Nat → Int, ∃ m : Nat, a = [AR 40, AI n] ∧ (MX hi ∧ (0 ≤ hi 39 8 ∧ hi 39 8 ≤ 600) ∧ inR n ∧ (0 ≤ n ∧ n ≤ hi 39 8 → TC (fM hi) n S P V st m)) ∧ ∀ (v : Int) (h2 : HI), (Fr [39, 40, 41, 42, 46, 47, 48] hi h2 ∧ FF 39 [0, 6, 8, 9, 10, 11, 12, 13, 14, 15, 16, 17, 20, 21] hi h2 ∧ (TxtM hi h2 S P V n v)) → Q (AI v) h2) := by
  refine Ct.of (ws' := _) (by decide +kernel) rfl rfl ?_
  intro a hi Q hT
  obtain ⟨n, S, P, V, st, m, rfl, hpre, hQ⟩ := hT
  refine ⟨Nat.le_of_ble_eq_true rfl, ?_⟩
  show Z kX8_text Q 0 [(0, AR 40), (1, AI n)] [] hi
  refine z_aload_n (pc := 0) (x := 40) dX8_text_0 rfl 0 rfl ?_
  refine z_iload_n (pc := 1) dX8_text_1 rfl 1 rfl ?_
  refine z_callV (pc := 2) (kc := kX8_begins) (n := 1) (pl := 39) (ci := 7) (C := RX8) (As := [AI n]) (stk := []) ct_X8_begins (gdV rfl rfl (iw27 _ (List.mem_of_getElem? (i := 5) rfl)) (iw27 _ (List.mem_of_getElem? (i := 6) rfl)) (iw27 _ (List.mem_of_getElem? (i := 7) rfl)) (iw1 _ (List.mem_of_getElem? (i := 5) rfl)) (iw27 _ (List.mem_of_getElem? (i := 8) rfl))) rfl ⟨rfl, rfl⟩ (by decide +kernel) ⟨by decide, by decide⟩ (by decide) rfl rfl dX8_text_2 rfl rfl (Nat.le_of_ble_eq_true rfl) ?_
  refine ⟨_, rfl, ⟨hpre.2.1, hpre.2.2.1⟩, fun v1 h2 eh2 => ?_⟩
  have frh2 : Fr [39, 40, 41, 42, 46, 47, 48] hi h2 := (Fr.call (Fr.rf) eh2.1 (by decide))
  have ff39h2 : FF 39 [0, 6, 8, 9, 10, 11, 12, 13, 14, 15, 16, 17, 20, 21] hi h2 := FF.call (FF.rf) (eh2.2.1) (by decide)
  refine z_if_ne (pc := 5) (tgt := 10) dX8_text_5 (by decide) ⟨by omega, by omega⟩ (fun c3 => ?_) (fun c3 => ?_)
  · obtain ⟨-, rh2, z8h2, fh2, z0h2, th2⟩ := (eh2.2.2).resolve_left (fun q => absurd q.1 (by omega))
    replace th2 := th2 S P V st m (hpre.2.2.2 (by omega))
    refine z_aload_n (pc := 10) (x := 40) dX8_text_10 rfl 0 rfl ?_
    refine z_iconst (pc := 11) (v := 0) dX8_text_11 rfl ?_
    refine z_putI (pc := 12) (pl := 39) (f := 20) (ci := 7) (C := RX8) (T := TX8) (N := 33) hu_X8 tyX8_ok nmX8 (by decide) rfl rfl (by decide) rfl (List.mem_cons_of_mem _ (iw27 _ (List.mem_of_getElem? (i := 1) rfl))) rfl rfl (ty := .int) (by decide +kernel) rfl rfl ⟨by decide, by decide⟩ dX8_text_12 (fun h4 eh4 => ?_)
    have frh4 : Fr [39, 40, 41, 42, 46, 47, 48] hi h4 := (Fr.put frh2 eh4 (by decide))
    have ff39h4 : FF 39 [0, 6, 8, 9, 10, 11, 12, 13, 14, 15, 16, 17, 20, 21] hi h4 := FF.put ff39h2 eh4 (by decide)
    have th4 : TM h4 S P V st m 0 := TM.put th2 eh4 (by decide)
    have J15 : ∀ (N : Nat) (hk : HI), (∃ L : Nat, hk 39 20 = L ∧ LnI S P V hk L ∧ TM hk S P V st m (cs S P V L)) → (hk 39 15 = -1) → (EqM hi hk ∧ hk 48 = hi 48 ∧ hk 39 21 = hi 39 21 ∧ hk 39 8 = 0) → (Fr [39, 40, 41, 42, 46, 47, 48] hi hk) → (FF 39 [0, 6, 8, 9, 10, 11, 12, 13, 14, 15, 16, 17, 20, 21] hi hk) → ((200 - hk 39 20).toNat) < N → Z kX8_text Q 15 [(0, AR 40), (1, AI n)] [] hk := by
      intro N
      induction N with
      | zero => intro hk _ _ _ _ _ _; exact absurd (by assumption) (Nat.not_lt_zero _)
      | succ N ih15 =>
        intro hk p0 p1 p2 frlhk ffl39hk hm15
        obtain ⟨L, q20, qL, tk⟩ := p0
        obtain ⟨b1, b3⟩ := qL.len tk.1
        have b5 := tk.rg
        have b6 := tk.1.p_bd b1
        refine z_aload_n (pc := 15) (x := 40) dX8_text_15 rfl 0 rfl ?_
        refine z_getI (pc := 16) (pl := 39) (f := 12) (ci := 7) (C := RX8) (T := TX8) (N := 33) hu_X8 (by decide) rfl rfl (by decide) rfl (List.mem_cons_of_mem _ (iw27 _ (List.mem_of_getElem? (i := 2) rfl))) rfl (by decide) dX8_text_16 (fun v5 ev5 rv5 => ?_)
        have nv5 := tk.num
        refine z_if_eq (pc := 19) (tgt := 77) dX8_text_19 (by decide) ⟨by omega, by omega⟩ (fun c6 => ?_) (fun c6 => ?_)
        · have s0 : S (cs S P V L) = 0 := by omega
          refine z_aload_n (pc := 77) (x := 40) dX8_text_77 rfl 0 rfl ?_
          refine z_iconst (pc := 78) (v := 1) dX8_text_78 rfl ?_
          refine z_putI (pc := 79) (pl := 39) (f := 21) (ci := 7) (C := RX8) (T := TX8) (N := 33) hu_X8 tyX8_ok nmX8 (by decide) rfl rfl (by decide) rfl (List.mem_cons_of_mem _ (iw27 _ (List.mem_of_getElem? (i := 4) rfl))) rfl rfl (ty := .boolean) (by decide +kernel) rfl rfl ⟨by decide, by decide⟩ dX8_text_79 (fun h7 eh7 => ?_)
          have frh7 : Fr [39, 40, 41, 42, 46, 47, 48] hi h7 := (Fr.put frlhk eh7 (by decide))
          have ff39h7 : FF 39 [0, 6, 8, 9, 10, 11, 12, 13, 14, 15, 16, 17, 20, 21] hi h7 := FF.put ffl39hk eh7 (by decide)
          have th7 : TM h7 S P V st m (cs S P V L) := TM.put tk eh7 (by decide)
          refine z_aload_n (pc := 82) (x := 40) dX8_text_82 rfl 0 rfl ?_
          refine z_getR (pc := 83) (pl := 39) (f := 22) (ci := 7) (C := RX8) (T := TX8) (N := 33) hu_X8 (by decide) rfl rfl (by decide) rfl (List.mem_cons_of_mem _ (iw5 _ (List.mem_of_getElem? (i := 14) rfl))) rfl dX8_text_83 ?_
          refine z_iconst (pc := 86) (v := 0) dX8_text_86 rfl ?_
          refine z_aload_n (pc := 87) (x := 40) dX8_text_87 rfl 0 rfl ?_
          refine z_getI (pc := 88) (pl := 39) (f := 20) (ci := 7) (C := RX8) (T := TX8) (N := 33) hu_X8 (by decide) rfl rfl (by decide) rfl (List.mem_cons_of_mem _ (iw27 _ (List.mem_of_getElem? (i := 1) rfl))) rfl (by decide) dX8_text_88 (fun v8 ev8 rv8 => ?_)
          rw [(by rw [eh7]; rfl : h7 39 20 = hk 39 20)] at ev8
          refine z_iast (pc := 91) (pl := 48) (by decide) rfl (by decide) (by decide) (by decide) ⟨by omega, by omega⟩ dX8_text_91 (fun h9 eh9 => ?_)
          replace eh9 : h9 = hput h7 48 (updI (h7 48) 0 v8) := eh9
          have frh9 : Fr [39, 40, 41, 42, 46, 47, 48] hi h9 := (Fr.put frh7 eh9 (by decide))
          have ff39h9 : FF 39 [0, 6, 8, 9, 10, 11, 12, 13, 14, 15, 16, 17, 20, 21] hi h9 := FF.oth ff39h7 eh9 (by decide)
          have th9 : TM h9 S P V st m (cs S P V L) := TM.oth th7 eh9 (by decide)
          refine z_aload_n (pc := 92) (x := 40) dX8_text_92 rfl 0 rfl ?_
          refine z_getR (pc := 93) (pl := 39) (f := 22) (ci := 7) (C := RX8) (T := TX8) (N := 33) hu_X8 (by decide) rfl rfl (by decide) rfl (List.mem_cons_of_mem _ (iw5 _ (List.mem_of_getElem? (i := 14) rfl))) rfl dX8_text_93 ?_
          refine z_iconst (pc := 96) (v := 1) dX8_text_96 rfl ?_
          refine z_iconst (pc := 97) (v := 0) dX8_text_97 rfl ?_
          refine z_iast (pc := 98) (pl := 48) (by decide) rfl (by decide) (by decide) (by decide) ⟨by decide, by decide⟩ dX8_text_98 (fun h10 eh10 => ?_)
          replace eh10 : h10 = hput h9 48 (updI (h9 48) 1 0) := eh10
          have frh10 : Fr [39, 40, 41, 42, 46, 47, 48] hi h10 := (Fr.put frh9 eh10 (by decide))
          have ff39h10 : FF 39 [0, 6, 8, 9, 10, 11, 12, 13, 14, 15, 16, 17, 20, 21] hi h10 := FF.oth ff39h9 eh10 (by decide)
          have th10 : TM h10 S P V st m (cs S P V L) := TM.oth th9 eh10 (by decide)
          refine z_aload_n (pc := 99) (x := 40) dX8_text_99 rfl 0 rfl ?_
          refine z_getR (pc := 100) (pl := 39) (f := 22) (ci := 7) (C := RX8) (T := TX8) (N := 33) hu_X8 (by decide) rfl rfl (by decide) rfl (List.mem_cons_of_mem _ (iw5 _ (List.mem_of_getElem? (i := 14) rfl))) rfl dX8_text_100 ?_
          refine z_iconst (pc := 103) (v := 2) dX8_text_103 rfl ?_
          refine z_iconst (pc := 104) (v := (-1)) dX8_text_104 rfl ?_
          refine z_iast (pc := 105) (pl := 48) (by decide) rfl (by decide) (by decide) (by decide) ⟨by decide, by decide⟩ dX8_text_105 (fun h11 eh11 => ?_)
          replace eh11 : h11 = hput h10 48 (updI (h10 48) 2 (-1)) := eh11
          have frh11 : Fr [39, 40, 41, 42, 46, 47, 48] hi h11 := (Fr.put frh10 eh11 (by decide))
          have ff39h11 : FF 39 [0, 6, 8, 9, 10, 11, 12, 13, 14, 15, 16, 17, 20, 21] hi h11 := FF.oth ff39h10 eh11 (by decide)
          have th11 : TM h11 S P V st m (cs S P V L) := TM.oth th10 eh11 (by decide)
          refine z_aload_n (pc := 106) (x := 40) dX8_text_106 rfl 0 rfl ?_
          refine z_getR (pc := 107) (pl := 39) (f := 22) (ci := 7) (C := RX8) (T := TX8) (N := 33) hu_X8 (by decide) rfl rfl (by decide) rfl (List.mem_cons_of_mem _ (iw5 _ (List.mem_of_getElem? (i := 14) rfl))) rfl dX8_text_107 ?_
          refine z_iconst (pc := 110) (v := 3) dX8_text_110 rfl ?_
          refine z_iconst (pc := 111) (v := 0) dX8_text_111 rfl ?_
          refine z_iast (pc := 112) (pl := 48) (by decide) rfl (by decide) (by decide) (by decide) ⟨by decide, by decide⟩ dX8_text_112 (fun h12 eh12 => ?_)
          replace eh12 : h12 = hput h11 48 (updI (h11 48) 3 0) := eh12
          have frh12 : Fr [39, 40, 41, 42, 46, 47, 48] hi h12 := (Fr.put frh11 eh12 (by decide))
          have ff39h12 : FF 39 [0, 6, 8, 9, 10, 11, 12, 13, 14, 15, 16, 17, 20, 21] hi h12 := FF.oth ff39h11 eh12 (by decide)
          have th12 : TM h12 S P V st m (cs S P V L) := TM.oth th11 eh12 (by decide)
          refine z_iconst (pc := 113) (v := 0) dX8_text_113 rfl ?_
          refine z_istore_n (pc := 114) (lv' := [(2, AI 0), (0, AR 40), (1, AI n)]) dX8_text_114 rfl (by decide) rfl ?_
          have J115 : ∀ (N : Nat) (k : Int) (hr : HI), (0 ≤ k ∧ k ≤ L) → (∃ r, RunM S P V hi k.toNat hr r ∧ RanI (hr 48) r) → (LnI S P V hr L ∧ hr 39 20 = L ∧ hr 39 21 = 1 ∧ hr 39 8 = 0 ∧ hr 48 0 = L) → (Fr [39, 40, 41, 42, 46, 47, 48] hi hr) → (FF 39 [0, 6, 8, 9, 10, 11, 12, 13, 14, 15, 16, 17, 20, 21] hi hr) → (((L : Int) - k).toNat) < N → Z kX8_text Q 115 [(2, AI k), (0, AR 40), (1, AI n)] [] hr := by
            intro N
            induction N with
            | zero => intro k hr _ _ _ _ _ _; exact absurd (by assumption) (Nat.not_lt_zero _)
            | succ N ih115 =>
              intro k hr r0 r1 r2 frlhr ffl39hr hm115
              obtain ⟨r, rM, rI⟩ := r1
              obtain ⟨qL2, r20, r21, r8, r48⟩ := r2
              have mx := RunM.mx hpre.1 rM
              have rb := rM.bd
              refine z_iload_n (pc := 115) dX8_text_115 rfl 0 rfl ?_
              refine z_aload_n (pc := 116) (x := 40) dX8_text_116 rfl 1 rfl ?_
              refine z_getI (pc := 117) (pl := 39) (f := 20) (ci := 7) (C := RX8) (T := TX8) (N := 33) hu_X8 (by decide) rfl rfl (by decide) rfl (List.mem_cons_of_mem _ (iw27 _ (List.mem_of_getElem? (i := 1) rfl))) rfl (by decide) dX8_text_117 (fun v13 ev13 rv13 => ?_)
              refine z_icmp_ge (pc := 120) (tgt := 199) dX8_text_120 (by decide) ⟨by omega, by omega⟩ ⟨by omega, by omega⟩ (fun c14 => ?_) (fun c14 => ?_)
              · refine z_aload_n (pc := 199) (x := 40) dX8_text_199 rfl 1 rfl ?_
                refine z_getI (pc := 200) (pl := 39) (f := 20) (ci := 7) (C := RX8) (T := TX8) (N := 33) hu_X8 (by decide) rfl rfl (by decide) rfl (List.mem_cons_of_mem _ (iw27 _ (List.mem_of_getElem? (i := 1) rfl))) rfl (by decide) dX8_text_200 (fun v15 ev15 rv15 => ?_)
                refine z_aload_n (pc := 203) (x := 40) dX8_text_203 rfl 1 rfl ?_
                refine z_getR (pc := 204) (pl := 39) (f := 22) (ci := 7) (C := RX8) (T := TX8) (N := 33) hu_X8 (by decide) rfl rfl (by decide) rfl (List.mem_cons_of_mem _ (iw5 _ (List.mem_of_getElem? (i := 14) rfl))) rfl dX8_text_204 ?_
                refine z_iconst (pc := 207) (v := 1) dX8_text_207 rfl ?_
                refine z_iald (pc := 208) (pl := 48) (by decide) rfl (by decide) (by decide) (by decide) (by decide) dX8_text_208 (fun v16 ev16 rv16 => ?_)
                replace ev16 : v16 = hr 48 1 := ev16
                refine z_isub (pc := 209) dX8_text_209 (fun v17 ev17 => ?_)
                refine z_iret (pc := 210) rfl dX8_text_210 ?_
                exact hQ v17 hr ⟨frlhr, ffl39hr, by first | exact Or.inl ⟨rfl, by omega, z1⟩ | exact Or.inr ⟨by omega, by rw [(rfl : hr 39 8 = hr 39 8)]; exact p2.2.2.2, L, qL.ok, Or.inl ⟨s0, ⟨_, zz, by omega⟩, EqM.of2 (by rw [(rfl : hr 39 6 = hr 39 6)]; first | done | exact p2.1.1) (by rw [(rfl : hr 40 = hr 40)]; first | done | exact p2.1.2.1) (by rw [(rfl : hr 42 = hr 42)]; first | done | exact p2.1.2.2.1) (by rw [(by rw [(frlhr 43 (by decide) : hr 43 = hi 43)] : hr 43 = hi 43)]) (by rw [(by rw [(frlhr 44 (by decide) : hr 44 = hi 44)] : hr 44 = hi 44)]), by rw [(rfl : hr 39 21 = hr 39 21)]; exact p2.2.2.1, by rw [(rfl : hr 48 = hr 48)]; exact p2.2.1⟩⟩ | exact Or.inr ⟨by omega, r8, L, qL.ok, Or.inr ⟨s0, by omega, r, by rw [show L = k.toNat by omega]; exact rM, r21, r48, rI.1, rI.2.1, rI.2.2, by omega⟩⟩⟩
              · obtain ⟨sk, ve, n1, h1_, o1, w1, ek, lk⟩ := qL2 k.toNat (by omega)
                rw [show ((k.toNat : Nat) : Int) = k by omega] at lk
                refine z_aload_n (pc := 123) (x := 40) dX8_text_123 rfl 1 rfl ?_
                refine z_iload_n (pc := 124) dX8_text_124 rfl 0 rfl ?_
                refine z_callV (pc := 125) (kc := kX8_does) (n := 1) (pl := 39) (ci := 7) (C := RX8) (As := [AI k]) (stk := []) ct_X8_does2 (gdV rfl rfl (iw30 _ (List.mem_of_getElem? (i := 10) rfl)) (iw30 _ (List.mem_of_getElem? (i := 11) rfl)) (iw30 _ (List.mem_of_getElem? (i := 12) rfl)) (iw1 _ (List.mem_of_getElem? (i := 5) rfl)) (iw30 _ (List.mem_of_getElem? (i := 13) rfl))) rfl ⟨rfl, rfl⟩ (by decide +kernel) ⟨by decide, by decide⟩ (by decide) rfl rfl dX8_text_125 rfl rfl (Nat.le_of_ble_eq_true rfl) ?_
                refine ⟨_, ve, n1, h1_, o1, w1, rfl, ⟨mx.mi, by omega, lk⟩, fun v18 h19 eh19 => ?_⟩
                have frh19 : Fr [39, 40, 41, 42, 46, 47, 48] hi h19 := (Fr.call frlhr eh19.1 (by decide))
                have ff39h19 : FF 39 [0, 6, 8, 9, 10, 11, 12, 13, 14, 15, 16, 17, 20, 21] hi h19 := FF.call ffl39hr (eh19.2.1) (by decide)
                have dF : Fr [39, 40, 41, 42] hr h19 := eh19.1
                have dL : DoL hr h19 (lnF S P V (cs S P V k.toNat)) v18 := by rw [ek]; exact eh19.2.2
                have dv := DoM.rng eh19.2.2
                refine z_istore_n (pc := 128) (lv' := [(3, AI v18), (2, AI k), (0, AR 40), (1, AI n)]) dX8_text_128 rfl (by decide) rfl ?_
                refine z_iload_n (pc := 129) dX8_text_129 rfl 0 rfl ?_
                refine z_if_eq (pc := 130) (tgt := 193) dX8_text_130 (by decide) ⟨by omega, by omega⟩ (fun c20 => ?_) (fun c20 => ?_)
                · refine z_iinc (pc := 193) (j := 1) (w := fun q => (2, AI q) :: [(3, AI v18), (0, AR 40), (1, AI n)]) dX8_text_193 rfl (by decide) (fun _ => rfl) (fun v21 ev21 => ?_)
                  refine z_goto (pc := 196) (tgt := 115) dX8_text_196 (by decide) ?_
                  refine z_sub (lv' := [(2, AI v21), (0, AR 40), (1, AI n)]) [0, 2, 3] rfl ?_
                  exact ih115 v21 h19 (by omega) (by first | exact ⟨_, runM_step (by omega) (by omega) rM dF dL EqM.rf, by rw [(by rw [(eh19.1 48 (by decide) : h19 48 = hr 48)] : h19 48 = hr 48)]; exact ran_0 rI (by omega)⟩ | exact ⟨_, runM_step (by omega) (by omega) rM dF dL (EqM.put48 EqM.rf (rfl : h19 39 = h19 39) (rfl : h19 40 = h19 40) (rfl : h19 42 = h19 42) (((by rw [(eh19.1 43 (by decide) : h19 43 = hr 43), (frlhr 43 (by decide) : hr 43 = hi 43)] : h19 43 = hi 43)).trans ((dF 43 (by decide)).trans (frlhr 43 (by decide))).symm) (((by rw [(eh19.1 44 (by decide) : h19 44 = hr 44), (frlhr 44 (by decide) : hr 44 = hi 44)] : h19 44 = hi 44)).trans ((dF 44 (by decide)).trans (frlhr 44 (by decide))).symm)), ran_1 rI (by omega) ⟨(by rw [(congrFun (eh19.1 48 (by decide)) 1 : h19 48 1 = hr 48 1)] : h19 48 1 = hr 48 1), (by rw [(congrFun (eh19.1 48 (by decide)) 2 : h19 48 2 = hr 48 2)] : h19 48 2 = hr 48 2), (by rw [(congrFun (eh19.1 48 (by decide)) 3 : h19 48 3 = hr 48 3)] : h19 48 3 = hr 48 3)⟩ (by omega) (by omega)⟩) (⟨qL2.kp (by rw [(eh19.1 46 (by decide) : h19 46 = hr 46)] : h19 46 = hr 46) (by rw [(eh19.1 47 (by decide) : h19 47 = hr 47)] : h19 47 = hr 47), by rw [(by rw [(eh19.2.1 20 (by decide) : h19 39 20 = hr 39 20)] : h19 39 20 = hr 39 20)]; exact r20, by rw [(by rw [(eh19.2.1 21 (by decide) : h19 39 21 = hr 39 21)] : h19 39 21 = hr 39 21)]; exact r21, by rw [(by rw [(eh19.2.1 8 (by decide) : h19 39 8 = hr 39 8)] : h19 39 8 = hr 39 8)]; exact r8, by rw [(by rw [(congrFun (eh19.1 48 (by decide)) 0 : h19 48 0 = hr 48 0)] : h19 48 0 = hr 48 0)]; exact r48⟩) (frh19) (ff39h19) (by omega)
                · refine z_aload_n (pc := 133) (x := 40) dX8_text_133 rfl 2 rfl ?_
                  refine z_getR (pc := 134) (pl := 39) (f := 22) (ci := 7) (C := RX8) (T := TX8) (N := 33) hu_X8 (by decide) rfl rfl (by decide) rfl (List.mem_cons_of_mem _ (iw5 _ (List.mem_of_getElem? (i := 14) rfl))) rfl dX8_text_134 ?_
                  refine z_iconst (pc := 137) (v := 2) dX8_text_137 rfl ?_
                  refine z_aload_n (pc := 138) (x := 40) dX8_text_138 rfl 2 rfl ?_
                  refine z_getR (pc := 139) (pl := 39) (f := 22) (ci := 7) (C := RX8) (T := TX8) (N := 33) hu_X8 (by decide) rfl rfl (by decide) rfl (List.mem_cons_of_mem _ (iw5 _ (List.mem_of_getElem? (i := 14) rfl))) rfl dX8_text_139 ?_
                  refine z_iconst (pc := 142) (v := 1) dX8_text_142 rfl ?_
                  refine z_iald (pc := 143) (pl := 48) (by decide) rfl (by decide) (by decide) (by decide) (by decide) dX8_text_143 (fun v22 ev22 rv22 => ?_)
                  replace ev22 : v22 = h19 48 1 := ev22
                  rw [(congrFun (eh19.1 48 (by decide)) 1 : h19 48 1 = hr 48 1)] at ev22
                  refine z_if_ne (pc := 144) (tgt := 151) dX8_text_144 (by decide) ⟨by omega, by omega⟩ (fun c23 => ?_) (fun c23 => ?_)
                  · refine z_aload_n (pc := 151) (x := 40) dX8_text_151 rfl 2 rfl ?_
                    refine z_getR (pc := 152) (pl := 39) (f := 22) (ci := 7) (C := RX8) (T := TX8) (N := 33) hu_X8 (by decide) rfl rfl (by decide) rfl (List.mem_cons_of_mem _ (iw5 _ (List.mem_of_getElem? (i := 14) rfl))) rfl dX8_text_152 ?_
                    refine z_iconst (pc := 155) (v := 2) dX8_text_155 rfl ?_
                    refine z_iald (pc := 156) (pl := 48) (by decide) rfl (by decide) (by decide) (by decide) (by decide) dX8_text_156 (fun v24 ev24 rv24 => ?_)
                    replace ev24 : v24 = h19 48 2 := ev24
                    rw [(congrFun (eh19.1 48 (by decide)) 2 : h19 48 2 = hr 48 2)] at ev24
                    refine z_iast (pc := 157) (pl := 48) (by decide) rfl (by decide) (by decide) (by decide) ⟨by omega, by omega⟩ dX8_text_157 (fun h25 eh25 => ?_)
                    replace eh25 : h25 = hput h19 48 (updI (h19 48) 2 v24) := eh25
                    have frh25 : Fr [39, 40, 41, 42, 46, 47, 48] hi h25 := (Fr.put frh19 eh25 (by decide))
                    have ff39h25 : FF 39 [0, 6, 8, 9, 10, 11, 12, 13, 14, 15, 16, 17, 20, 21] hi h25 := FF.oth ff39h19 eh25 (by decide)
                    refine z_aload_n (pc := 158) (x := 40) dX8_text_158 rfl 2 rfl ?_
                    refine z_getR (pc := 159) (pl := 39) (f := 22) (ci := 7) (C := RX8) (T := TX8) (N := 33) hu_X8 (by decide) rfl rfl (by decide) rfl (List.mem_cons_of_mem _ (iw5 _ (List.mem_of_getElem? (i := 14) rfl))) rfl dX8_text_159 ?_
                    refine z_iconst (pc := 162) (v := 3) dX8_text_162 rfl ?_
                    refine z_aload_n (pc := 163) (x := 40) dX8_text_163 rfl 2 rfl ?_
                    refine z_getR (pc := 164) (pl := 39) (f := 22) (ci := 7) (C := RX8) (T := TX8) (N := 33) hu_X8 (by decide) rfl rfl (by decide) rfl (List.mem_cons_of_mem _ (iw5 _ (List.mem_of_getElem? (i := 14) rfl))) rfl dX8_text_164 ?_
                    refine z_iconst (pc := 167) (v := 1) dX8_text_167 rfl ?_
                    refine z_iald (pc := 168) (pl := 48) (by decide) rfl (by decide) (by decide) (by decide) (by decide) dX8_text_168 (fun v26 ev26 rv26 => ?_)
                    replace ev26 : v26 = h25 48 1 := ev26
                    rw [(by rw [eh25]; rfl : h25 48 1 = h19 48 1), (congrFun (eh19.1 48 (by decide)) 1 : h19 48 1 = hr 48 1)] at ev26
                    refine z_if_ne (pc := 169) (tgt := 176) dX8_text_169 (by decide) ⟨by omega, by omega⟩ (fun c27 => ?_) (fun c27 => ?_)
                    · refine z_aload_n (pc := 176) (x := 40) dX8_text_176 rfl 2 rfl ?_
                      refine z_getR (pc := 177) (pl := 39) (f := 22) (ci := 7) (C := RX8) (T := TX8) (N := 33) hu_X8 (by decide) rfl rfl (by decide) rfl (List.mem_cons_of_mem _ (iw5 _ (List.mem_of_getElem? (i := 14) rfl))) rfl dX8_text_177 ?_
                      refine z_iconst (pc := 180) (v := 3) dX8_text_180 rfl ?_
                      refine z_iald (pc := 181) (pl := 48) (by decide) rfl (by decide) (by decide) (by decide) (by decide) dX8_text_181 (fun v28 ev28 rv28 => ?_)
                      replace ev28 : v28 = h25 48 3 := ev28
                      rw [(by rw [eh25]; rfl : h25 48 3 = h19 48 3), (congrFun (eh19.1 48 (by decide)) 3 : h19 48 3 = hr 48 3)] at ev28
                      refine z_iast (pc := 182) (pl := 48) (by decide) rfl (by decide) (by decide) (by decide) ⟨by omega, by omega⟩ dX8_text_182 (fun h29 eh29 => ?_)
                      replace eh29 : h29 = hput h25 48 (updI (h25 48) 3 v28) := eh29
                      have frh29 : Fr [39, 40, 41, 42, 46, 47, 48] hi h29 := (Fr.put frh25 eh29 (by decide))
                      have ff39h29 : FF 39 [0, 6, 8, 9, 10, 11, 12, 13, 14, 15, 16, 17, 20, 21] hi h29 := FF.oth ff39h25 eh29 (by decide)
                      refine z_aload_n (pc := 183) (x := 40) dX8_text_183 rfl 2 rfl ?_
                      refine z_getR (pc := 184) (pl := 39) (f := 22) (ci := 7) (C := RX8) (T := TX8) (N := 33) hu_X8 (by decide) rfl rfl (by decide) rfl (List.mem_cons_of_mem _ (iw5 _ (List.mem_of_getElem? (i := 14) rfl))) rfl dX8_text_184 ?_
                      refine z_iconst (pc := 187) (v := 1) dX8_text_187 rfl ?_
                      refine z_dup2 (pc := 188) dX8_text_188 rfl rfl ?_
                      refine z_iald (pc := 189) (pl := 48) (by decide) rfl (by decide) (by decide) (by decide) (by decide) dX8_text_189 (fun v30 ev30 rv30 => ?_)
                      replace ev30 : v30 = h29 48 1 := ev30
                      rw [(by rw [eh29]; rfl : h29 48 1 = h25 48 1), (by rw [eh25]; rfl : h25 48 1 = h19 48 1), (congrFun (eh19.1 48 (by decide)) 1 : h19 48 1 = hr 48 1)] at ev30
                      refine z_iconst (pc := 190) (v := 1) dX8_text_190 rfl ?_
                      refine z_iadd (pc := 191) dX8_text_191 (fun v31 ev31 => ?_)
                      refine z_iast (pc := 192) (pl := 48) (by decide) rfl (by decide) (by decide) (by decide) ⟨by omega, by omega⟩ dX8_text_192 (fun h32 eh32 => ?_)
                      replace eh32 : h32 = hput h29 48 (updI (h29 48) 1 v31) := eh32
                      have frh32 : Fr [39, 40, 41, 42, 46, 47, 48] hi h32 := (Fr.put frh29 eh32 (by decide))
                      have ff39h32 : FF 39 [0, 6, 8, 9, 10, 11, 12, 13, 14, 15, 16, 17, 20, 21] hi h32 := FF.oth ff39h29 eh32 (by decide)
                      refine z_iinc (pc := 193) (j := 1) (w := fun q => (2, AI q) :: [(3, AI v18), (0, AR 40), (1, AI n)]) dX8_text_193 rfl (by decide) (fun _ => rfl) (fun v33 ev33 => ?_)
                      refine z_goto (pc := 196) (tgt := 115) dX8_text_196 (by decide) ?_
                      refine z_sub (lv' := [(2, AI v33), (0, AR 40), (1, AI n)]) [0, 2, 3] rfl ?_
                      exact ih115 v33 h32 (by omega) (by first | exact ⟨_, runM_step (by omega) (by omega) rM dF dL EqM.rf, by rw [(rfl : h32 48 = h32 48)]; exact ran_0 rI (by omega)⟩ | exact ⟨_, runM_step (by omega) (by omega) rM dF dL (EqM.put48 EqM.rf (by rw [(by rw [eh32]; rfl : h32 39 = h29 39), (by rw [eh29]; rfl : h29 39 = h25 39), (by rw [eh25]; rfl : h25 39 = h19 39)] : h32 39 = h19 39) (by rw [(by rw [eh32]; rfl : h32 40 = h29 40), (by rw [eh29]; rfl : h29 40 = h25 40), (by rw [eh25]; rfl : h25 40 = h19 40)] : h32 40 = h19 40) (by rw [(by rw [eh32]; rfl : h32 42 = h29 42), (by rw [eh29]; rfl : h29 42 = h25 42), (by rw [eh25]; rfl : h25 42 = h19 42)] : h32 42 = h19 42) (((by rw [(by rw [eh32]; rfl : h32 43 = h29 43), (by rw [eh29]; rfl : h29 43 = h25 43), (by rw [eh25]; rfl : h25 43 = h19 43), (eh19.1 43 (by decide) : h19 43 = hr 43), (frlhr 43 (by decide) : hr 43 = hi 43)] : h32 43 = hi 43)).trans ((dF 43 (by decide)).trans (frlhr 43 (by decide))).symm) (((by rw [(by rw [eh32]; rfl : h32 44 = h29 44), (by rw [eh29]; rfl : h29 44 = h25 44), (by rw [eh25]; rfl : h25 44 = h19 44), (eh19.1 44 (by decide) : h19 44 = hr 44), (frlhr 44 (by decide) : hr 44 = hi 44)] : h32 44 = hi 44)).trans ((dF 44 (by decide)).trans (frlhr 44 (by decide))).symm)), ran_1 rI (by omega) ⟨(by rw [(by rw [eh32]; rfl : h32 48 1 = v31)] : h32 48 1 = v31), (by rw [(by rw [eh32]; rfl : h32 48 2 = h29 48 2), (by rw [eh29]; rfl : h29 48 2 = h25 48 2), (by rw [eh25]; rfl : h25 48 2 = v24)] : h32 48 2 = v24), (by rw [(by rw [eh32]; rfl : h32 48 3 = h29 48 3), (by rw [eh29]; rfl : h29 48 3 = v28)] : h32 48 3 = v28)⟩ (by omega) (by omega)⟩) (⟨qL2.kp (by rw [(by rw [eh32]; rfl : h32 46 = h29 46), (by rw [eh29]; rfl : h29 46 = h25 46), (by rw [eh25]; rfl : h25 46 = h19 46), (eh19.1 46 (by decide) : h19 46 = hr 46)] : h32 46 = hr 46) (by rw [(by rw [eh32]; rfl : h32 47 = h29 47), (by rw [eh29]; rfl : h29 47 = h25 47), (by rw [eh25]; rfl : h25 47 = h19 47), (eh19.1 47 (by decide) : h19 47 = hr 47)] : h32 47 = hr 47), by rw [(by rw [(by rw [eh32]; rfl : h32 39 20 = h29 39 20), (by rw [eh29]; rfl : h29 39 20 = h25 39 20), (by rw [eh25]; rfl : h25 39 20 = h19 39 20), (eh19.2.1 20 (by decide) : h19 39 20 = hr 39 20)] : h32 39 20 = hr 39 20)]; exact r20, by rw [(by rw [(by rw [eh32]; rfl : h32 39 21 = h29 39 21), (by rw [eh29]; rfl : h29 39 21 = h25 39 21), (by rw [eh25]; rfl : h25 39 21 = h19 39 21), (eh19.2.1 21 (by decide) : h19 39 21 = hr 39 21)] : h32 39 21 = hr 39 21)]; exact r21, by rw [(by rw [(by rw [eh32]; rfl : h32 39 8 = h29 39 8), (by rw [eh29]; rfl : h29 39 8 = h25 39 8), (by rw [eh25]; rfl : h25 39 8 = h19 39 8), (eh19.2.1 8 (by decide) : h19 39 8 = hr 39 8)] : h32 39 8 = hr 39 8)]; exact r8, by rw [(by rw [(by rw [eh32]; rfl : h32 48 0 = h29 48 0), (by rw [eh29]; rfl : h29 48 0 = h25 48 0), (by rw [eh25]; rfl : h25 48 0 = h19 48 0), (congrFun (eh19.1 48 (by decide)) 0 : h19 48 0 = hr 48 0)] : h32 48 0 = hr 48 0)]; exact r48⟩) (frh32) (ff39h32) (by omega)
                    · refine z_iload_n (pc := 172) dX8_text_172 rfl 0 rfl ?_
                      refine z_goto (pc := 173) (tgt := 182) dX8_text_173 (by decide) ?_
                      refine z_iast (pc := 182) (pl := 48) (by decide) rfl (by decide) (by decide) (by decide) ⟨by omega, by omega⟩ dX8_text_182 (fun h34 eh34 => ?_)
                      replace eh34 : h34 = hput h25 48 (updI (h25 48) 3 v18) := eh34
                      have frh34 : Fr [39, 40, 41, 42, 46, 47, 48] hi h34 := (Fr.put frh25 eh34 (by decide))
                      have ff39h34 : FF 39 [0, 6, 8, 9, 10, 11, 12, 13, 14, 15, 16, 17, 20, 21] hi h34 := FF.oth ff39h25 eh34 (by decide)
                      refine z_aload_n (pc := 183) (x := 40) dX8_text_183 rfl 2 rfl ?_
                      refine z_getR (pc := 184) (pl := 39) (f := 22) (ci := 7) (C := RX8) (T := TX8) (N := 33) hu_X8 (by decide) rfl rfl (by decide) rfl (List.mem_cons_of_mem _ (iw5 _ (List.mem_of_getElem? (i := 14) rfl))) rfl dX8_text_184 ?_
                      refine z_iconst (pc := 187) (v := 1) dX8_text_187 rfl ?_
                      refine z_dup2 (pc := 188) dX8_text_188 rfl rfl ?_
                      refine z_iald (pc := 189) (pl := 48) (by decide) rfl (by decide) (by decide) (by decide) (by decide) dX8_text_189 (fun v35 ev35 rv35 => ?_)
                      replace ev35 : v35 = h34 48 1 := ev35
                      rw [(by rw [eh34]; rfl : h34 48 1 = h25 48 1), (by rw [eh25]; rfl : h25 48 1 = h19 48 1), (congrFun (eh19.1 48 (by decide)) 1 : h19 48 1 = hr 48 1)] at ev35
                      refine z_iconst (pc := 190) (v := 1) dX8_text_190 rfl ?_
                      refine z_iadd (pc := 191) dX8_text_191 (fun v36 ev36 => ?_)
                      refine z_iast (pc := 192) (pl := 48) (by decide) rfl (by decide) (by decide) (by decide) ⟨by omega, by omega⟩ dX8_text_192 (fun h37 eh37 => ?_)
                      replace eh37 : h37 = hput h34 48 (updI (h34 48) 1 v36) := eh37
                      have frh37 : Fr [39, 40, 41, 42, 46, 47, 48] hi h37 := (Fr.put frh34 eh37 (by decide))
                      have ff39h37 : FF 39 [0, 6, 8, 9, 10, 11, 12, 13, 14, 15, 16, 17, 20, 21] hi h37 := FF.oth ff39h34 eh37 (by decide)
                      refine z_iinc (pc := 193) (j := 1) (w := fun q => (2, AI q) :: [(3, AI v18), (0, AR 40), (1, AI n)]) dX8_text_193 rfl (by decide) (fun _ => rfl) (fun v38 ev38 => ?_)
                      refine z_goto (pc := 196) (tgt := 115) dX8_text_196 (by decide) ?_
                      refine z_sub (lv' := [(2, AI v38), (0, AR 40), (1, AI n)]) [0, 2, 3] rfl ?_
                      exact ih115 v38 h37 (by omega) (by first | exact ⟨_, runM_step (by omega) (by omega) rM dF dL EqM.rf, by rw [(rfl : h37 48 = h37 48)]; exact ran_0 rI (by omega)⟩ | exact ⟨_, runM_step (by omega) (by omega) rM dF dL (EqM.put48 EqM.rf (by rw [(by rw [eh37]; rfl : h37 39 = h34 39), (by rw [eh34]; rfl : h34 39 = h25 39), (by rw [eh25]; rfl : h25 39 = h19 39)] : h37 39 = h19 39) (by rw [(by rw [eh37]; rfl : h37 40 = h34 40), (by rw [eh34]; rfl : h34 40 = h25 40), (by rw [eh25]; rfl : h25 40 = h19 40)] : h37 40 = h19 40) (by rw [(by rw [eh37]; rfl : h37 42 = h34 42), (by rw [eh34]; rfl : h34 42 = h25 42), (by rw [eh25]; rfl : h25 42 = h19 42)] : h37 42 = h19 42) (((by rw [(by rw [eh37]; rfl : h37 43 = h34 43), (by rw [eh34]; rfl : h34 43 = h25 43), (by rw [eh25]; rfl : h25 43 = h19 43), (eh19.1 43 (by decide) : h19 43 = hr 43), (frlhr 43 (by decide) : hr 43 = hi 43)] : h37 43 = hi 43)).trans ((dF 43 (by decide)).trans (frlhr 43 (by decide))).symm) (((by rw [(by rw [eh37]; rfl : h37 44 = h34 44), (by rw [eh34]; rfl : h34 44 = h25 44), (by rw [eh25]; rfl : h25 44 = h19 44), (eh19.1 44 (by decide) : h19 44 = hr 44), (frlhr 44 (by decide) : hr 44 = hi 44)] : h37 44 = hi 44)).trans ((dF 44 (by decide)).trans (frlhr 44 (by decide))).symm)), ran_1 rI (by omega) ⟨(by rw [(by rw [eh37]; rfl : h37 48 1 = v36)] : h37 48 1 = v36), (by rw [(by rw [eh37]; rfl : h37 48 2 = h34 48 2), (by rw [eh34]; rfl : h34 48 2 = h25 48 2), (by rw [eh25]; rfl : h25 48 2 = v24)] : h37 48 2 = v24), (by rw [(by rw [eh37]; rfl : h37 48 3 = h34 48 3), (by rw [eh34]; rfl : h34 48 3 = v18)] : h37 48 3 = v18)⟩ (by omega) (by omega)⟩) (⟨qL2.kp (by rw [(by rw [eh37]; rfl : h37 46 = h34 46), (by rw [eh34]; rfl : h34 46 = h25 46), (by rw [eh25]; rfl : h25 46 = h19 46), (eh19.1 46 (by decide) : h19 46 = hr 46)] : h37 46 = hr 46) (by rw [(by rw [eh37]; rfl : h37 47 = h34 47), (by rw [eh34]; rfl : h34 47 = h25 47), (by rw [eh25]; rfl : h25 47 = h19 47), (eh19.1 47 (by decide) : h19 47 = hr 47)] : h37 47 = hr 47), by rw [(by rw [(by rw [eh37]; rfl : h37 39 20 = h34 39 20), (by rw [eh34]; rfl : h34 39 20 = h25 39 20), (by rw [eh25]; rfl : h25 39 20 = h19 39 20), (eh19.2.1 20 (by decide) : h19 39 20 = hr 39 20)] : h37 39 20 = hr 39 20)]; exact r20, by rw [(by rw [(by rw [eh37]; rfl : h37 39 21 = h34 39 21), (by rw [eh34]; rfl : h34 39 21 = h25 39 21), (by rw [eh25]; rfl : h25 39 21 = h19 39 21), (eh19.2.1 21 (by decide) : h19 39 21 = hr 39 21)] : h37 39 21 = hr 39 21)]; exact r21, by rw [(by rw [(by rw [eh37]; rfl : h37 39 8 = h34 39 8), (by rw [eh34]; rfl : h34 39 8 = h25 39 8), (by rw [eh25]; rfl : h25 39 8 = h19 39 8), (eh19.2.1 8 (by decide) : h19 39 8 = hr 39 8)] : h37 39 8 = hr 39 8)]; exact r8, by rw [(by rw [(by rw [eh37]; rfl : h37 48 0 = h34 48 0), (by rw [eh34]; rfl : h34 48 0 = h25 48 0), (by rw [eh25]; rfl : h25 48 0 = h19 48 0), (congrFun (eh19.1 48 (by decide)) 0 : h19 48 0 = hr 48 0)] : h37 48 0 = hr 48 0)]; exact r48⟩) (frh37) (ff39h37) (by omega)
                  · refine z_iload_n (pc := 147) dX8_text_147 rfl 1 rfl ?_
                    refine z_goto (pc := 148) (tgt := 157) dX8_text_148 (by decide) ?_
                    refine z_iast (pc := 157) (pl := 48) (by decide) rfl (by decide) (by decide) (by decide) ⟨by omega, by omega⟩ dX8_text_157 (fun h39 eh39 => ?_)
                    replace eh39 : h39 = hput h19 48 (updI (h19 48) 2 k) := eh39
                    have frh39 : Fr [39, 40, 41, 42, 46, 47, 48] hi h39 := (Fr.put frh19 eh39 (by decide))
                    have ff39h39 : FF 39 [0, 6, 8, 9, 10, 11, 12, 13, 14, 15, 16, 17, 20, 21] hi h39 := FF.oth ff39h19 eh39 (by decide)
                    refine z_aload_n (pc := 158) (x := 40) dX8_text_158 rfl 2 rfl ?_
                    refine z_getR (pc := 159) (pl := 39) (f := 22) (ci := 7) (C := RX8) (T := TX8) (N := 33) hu_X8 (by decide) rfl rfl (by decide) rfl (List.mem_cons_of_mem _ (iw5 _ (List.mem_of_getElem? (i := 14) rfl))) rfl dX8_text_159 ?_
                    refine z_iconst (pc := 162) (v := 3) dX8_text_162 rfl ?_
                    refine z_aload_n (pc := 163) (x := 40) dX8_text_163 rfl 2 rfl ?_
                    refine z_getR (pc := 164) (pl := 39) (f := 22) (ci := 7) (C := RX8) (T := TX8) (N := 33) hu_X8 (by decide) rfl rfl (by decide) rfl (List.mem_cons_of_mem _ (iw5 _ (List.mem_of_getElem? (i := 14) rfl))) rfl dX8_text_164 ?_
                    refine z_iconst (pc := 167) (v := 1) dX8_text_167 rfl ?_
                    refine z_iald (pc := 168) (pl := 48) (by decide) rfl (by decide) (by decide) (by decide) (by decide) dX8_text_168 (fun v40 ev40 rv40 => ?_)
                    replace ev40 : v40 = h39 48 1 := ev40
                    rw [(by rw [eh39]; rfl : h39 48 1 = h19 48 1), (congrFun (eh19.1 48 (by decide)) 1 : h19 48 1 = hr 48 1)] at ev40
                    refine z_if_ne (pc := 169) (tgt := 176) dX8_text_169 (by decide) ⟨by omega, by omega⟩ (fun c41 => ?_) (fun c41 => ?_)
                    · refine z_aload_n (pc := 176) (x := 40) dX8_text_176 rfl 2 rfl ?_
                      refine z_getR (pc := 177) (pl := 39) (f := 22) (ci := 7) (C := RX8) (T := TX8) (N := 33) hu_X8 (by decide) rfl rfl (by decide) rfl (List.mem_cons_of_mem _ (iw5 _ (List.mem_of_getElem? (i := 14) rfl))) rfl dX8_text_177 ?_
                      refine z_iconst (pc := 180) (v := 3) dX8_text_180 rfl ?_
                      refine z_iald (pc := 181) (pl := 48) (by decide) rfl (by decide) (by decide) (by decide) (by decide) dX8_text_181 (fun v42 ev42 rv42 => ?_)
                      replace ev42 : v42 = h39 48 3 := ev42
                      rw [(by rw [eh39]; rfl : h39 48 3 = h19 48 3), (congrFun (eh19.1 48 (by decide)) 3 : h19 48 3 = hr 48 3)] at ev42
                      refine z_iast (pc := 182) (pl := 48) (by decide) rfl (by decide) (by decide) (by decide) ⟨by omega, by omega⟩ dX8_text_182 (fun h43 eh43 => ?_)
                      replace eh43 : h43 = hput h39 48 (updI (h39 48) 3 v42) := eh43
                      have frh43 : Fr [39, 40, 41, 42, 46, 47, 48] hi h43 := (Fr.put frh39 eh43 (by decide))
                      have ff39h43 : FF 39 [0, 6, 8, 9, 10, 11, 12, 13, 14, 15, 16, 17, 20, 21] hi h43 := FF.oth ff39h39 eh43 (by decide)
                      refine z_aload_n (pc := 183) (x := 40) dX8_text_183 rfl 2 rfl ?_
                      refine z_getR (pc := 184) (pl := 39) (f := 22) (ci := 7) (C := RX8) (T := TX8) (N := 33) hu_X8 (by decide) rfl rfl (by decide) rfl (List.mem_cons_of_mem _ (iw5 _ (List.mem_of_getElem? (i := 14) rfl))) rfl dX8_text_184 ?_
                      refine z_iconst (pc := 187) (v := 1) dX8_text_187 rfl ?_
                      refine z_dup2 (pc := 188) dX8_text_188 rfl rfl ?_
                      refine z_iald (pc := 189) (pl := 48) (by decide) rfl (by decide) (by decide) (by decide) (by decide) dX8_text_189 (fun v44 ev44 rv44 => ?_)
                      replace ev44 : v44 = h43 48 1 := ev44
                      rw [(by rw [eh43]; rfl : h43 48 1 = h39 48 1), (by rw [eh39]; rfl : h39 48 1 = h19 48 1), (congrFun (eh19.1 48 (by decide)) 1 : h19 48 1 = hr 48 1)] at ev44
                      refine z_iconst (pc := 190) (v := 1) dX8_text_190 rfl ?_
                      refine z_iadd (pc := 191) dX8_text_191 (fun v45 ev45 => ?_)
                      refine z_iast (pc := 192) (pl := 48) (by decide) rfl (by decide) (by decide) (by decide) ⟨by omega, by omega⟩ dX8_text_192 (fun h46 eh46 => ?_)
                      replace eh46 : h46 = hput h43 48 (updI (h43 48) 1 v45) := eh46
                      have frh46 : Fr [39, 40, 41, 42, 46, 47, 48] hi h46 := (Fr.put frh43 eh46 (by decide))
                      have ff39h46 : FF 39 [0, 6, 8, 9, 10, 11, 12, 13, 14, 15, 16, 17, 20, 21] hi h46 := FF.oth ff39h43 eh46 (by decide)
                      refine z_iinc (pc := 193) (j := 1) (w := fun q => (2, AI q) :: [(3, AI v18), (0, AR 40), (1, AI n)]) dX8_text_193 rfl (by decide) (fun _ => rfl) (fun v47 ev47 => ?_)
                      refine z_goto (pc := 196) (tgt := 115) dX8_text_196 (by decide) ?_
                      refine z_sub (lv' := [(2, AI v47), (0, AR 40), (1, AI n)]) [0, 2, 3] rfl ?_
                      exact ih115 v47 h46 (by omega) (by first | exact ⟨_, runM_step (by omega) (by omega) rM dF dL EqM.rf, by rw [(rfl : h46 48 = h46 48)]; exact ran_0 rI (by omega)⟩ | exact ⟨_, runM_step (by omega) (by omega) rM dF dL (EqM.put48 EqM.rf (by rw [(by rw [eh46]; rfl : h46 39 = h43 39), (by rw [eh43]; rfl : h43 39 = h39 39), (by rw [eh39]; rfl : h39 39 = h19 39)] : h46 39 = h19 39) (by rw [(by rw [eh46]; rfl : h46 40 = h43 40), (by rw [eh43]; rfl : h43 40 = h39 40), (by rw [eh39]; rfl : h39 40 = h19 40)] : h46 40 = h19 40) (by rw [(by rw [eh46]; rfl : h46 42 = h43 42), (by rw [eh43]; rfl : h43 42 = h39 42), (by rw [eh39]; rfl : h39 42 = h19 42)] : h46 42 = h19 42) (((by rw [(by rw [eh46]; rfl : h46 43 = h43 43), (by rw [eh43]; rfl : h43 43 = h39 43), (by rw [eh39]; rfl : h39 43 = h19 43), (eh19.1 43 (by decide) : h19 43 = hr 43), (frlhr 43 (by decide) : hr 43 = hi 43)] : h46 43 = hi 43)).trans ((dF 43 (by decide)).trans (frlhr 43 (by decide))).symm) (((by rw [(by rw [eh46]; rfl : h46 44 = h43 44), (by rw [eh43]; rfl : h43 44 = h39 44), (by rw [eh39]; rfl : h39 44 = h19 44), (eh19.1 44 (by decide) : h19 44 = hr 44), (frlhr 44 (by decide) : hr 44 = hi 44)] : h46 44 = hi 44)).trans ((dF 44 (by decide)).trans (frlhr 44 (by decide))).symm)), ran_1 rI (by omega) ⟨(by rw [(by rw [eh46]; rfl : h46 48 1 = v45)] : h46 48 1 = v45), (by rw [(by rw [eh46]; rfl : h46 48 2 = h43 48 2), (by rw [eh43]; rfl : h43 48 2 = h39 48 2), (by rw [eh39]; rfl : h39 48 2 = k)] : h46 48 2 = k), (by rw [(by rw [eh46]; rfl : h46 48 3 = h43 48 3), (by rw [eh43]; rfl : h43 48 3 = v42)] : h46 48 3 = v42)⟩ (by omega) (by omega)⟩) (⟨qL2.kp (by rw [(by rw [eh46]; rfl : h46 46 = h43 46), (by rw [eh43]; rfl : h43 46 = h39 46), (by rw [eh39]; rfl : h39 46 = h19 46), (eh19.1 46 (by decide) : h19 46 = hr 46)] : h46 46 = hr 46) (by rw [(by rw [eh46]; rfl : h46 47 = h43 47), (by rw [eh43]; rfl : h43 47 = h39 47), (by rw [eh39]; rfl : h39 47 = h19 47), (eh19.1 47 (by decide) : h19 47 = hr 47)] : h46 47 = hr 47), by rw [(by rw [(by rw [eh46]; rfl : h46 39 20 = h43 39 20), (by rw [eh43]; rfl : h43 39 20 = h39 39 20), (by rw [eh39]; rfl : h39 39 20 = h19 39 20), (eh19.2.1 20 (by decide) : h19 39 20 = hr 39 20)] : h46 39 20 = hr 39 20)]; exact r20, by rw [(by rw [(by rw [eh46]; rfl : h46 39 21 = h43 39 21), (by rw [eh43]; rfl : h43 39 21 = h39 39 21), (by rw [eh39]; rfl : h39 39 21 = h19 39 21), (eh19.2.1 21 (by decide) : h19 39 21 = hr 39 21)] : h46 39 21 = hr 39 21)]; exact r21, by rw [(by rw [(by rw [eh46]; rfl : h46 39 8 = h43 39 8), (by rw [eh43]; rfl : h43 39 8 = h39 39 8), (by rw [eh39]; rfl : h39 39 8 = h19 39 8), (eh19.2.1 8 (by decide) : h19 39 8 = hr 39 8)] : h46 39 8 = hr 39 8)]; exact r8, by rw [(by rw [(by rw [eh46]; rfl : h46 48 0 = h43 48 0), (by rw [eh43]; rfl : h43 48 0 = h39 48 0), (by rw [eh39]; rfl : h39 48 0 = h19 48 0), (congrFun (eh19.1 48 (by decide)) 0 : h19 48 0 = hr 48 0)] : h46 48 0 = hr 48 0)]; exact r48⟩) (frh46) (ff39h46) (by omega)
                    · refine z_iload_n (pc := 172) dX8_text_172 rfl 0 rfl ?_
                      refine z_goto (pc := 173) (tgt := 182) dX8_text_173 (by decide) ?_
                      refine z_iast (pc := 182) (pl := 48) (by decide) rfl (by decide) (by decide) (by decide) ⟨by omega, by omega⟩ dX8_text_182 (fun h48 eh48 => ?_)
                      replace eh48 : h48 = hput h39 48 (updI (h39 48) 3 v18) := eh48
                      have frh48 : Fr [39, 40, 41, 42, 46, 47, 48] hi h48 := (Fr.put frh39 eh48 (by decide))
                      have ff39h48 : FF 39 [0, 6, 8, 9, 10, 11, 12, 13, 14, 15, 16, 17, 20, 21] hi h48 := FF.oth ff39h39 eh48 (by decide)
                      refine z_aload_n (pc := 183) (x := 40) dX8_text_183 rfl 2 rfl ?_
                      refine z_getR (pc := 184) (pl := 39) (f := 22) (ci := 7) (C := RX8) (T := TX8) (N := 33) hu_X8 (by decide) rfl rfl (by decide) rfl (List.mem_cons_of_mem _ (iw5 _ (List.mem_of_getElem? (i := 14) rfl))) rfl dX8_text_184 ?_
                      refine z_iconst (pc := 187) (v := 1) dX8_text_187 rfl ?_
                      refine z_dup2 (pc := 188) dX8_text_188 rfl rfl ?_
                      refine z_iald (pc := 189) (pl := 48) (by decide) rfl (by decide) (by decide) (by decide) (by decide) dX8_text_189 (fun v49 ev49 rv49 => ?_)
                      replace ev49 : v49 = h48 48 1 := ev49
                      rw [(by rw [eh48]; rfl : h48 48 1 = h39 48 1), (by rw [eh39]; rfl : h39 48 1 = h19 48 1), (congrFun (eh19.1 48 (by decide)) 1 : h19 48 1 = hr 48 1)] at ev49
                      refine z_iconst (pc := 190) (v := 1) dX8_text_190 rfl ?_
                      refine z_iadd (pc := 191) dX8_text_191 (fun v50 ev50 => ?_)
                      refine z_iast (pc := 192) (pl := 48) (by decide) rfl (by decide) (by decide) (by decide) ⟨by omega, by omega⟩ dX8_text_192 (fun h51 eh51 => ?_)
                      replace eh51 : h51 = hput h48 48 (updI (h48 48) 1 v50) := eh51
                      have frh51 : Fr [39, 40, 41, 42, 46, 47, 48] hi h51 := (Fr.put frh48 eh51 (by decide))
                      have ff39h51 : FF 39 [0, 6, 8, 9, 10, 11, 12, 13, 14, 15, 16, 17, 20, 21] hi h51 := FF.oth ff39h48 eh51 (by decide)
                      refine z_iinc (pc := 193) (j := 1) (w := fun q => (2, AI q) :: [(3, AI v18), (0, AR 40), (1, AI n)]) dX8_text_193 rfl (by decide) (fun _ => rfl) (fun v52 ev52 => ?_)
                      refine z_goto (pc := 196) (tgt := 115) dX8_text_196 (by decide) ?_
                      refine z_sub (lv' := [(2, AI v52), (0, AR 40), (1, AI n)]) [0, 2, 3] rfl ?_
                      exact ih115 v52 h51 (by omega) (by first | exact ⟨_, runM_step (by omega) (by omega) rM dF dL EqM.rf, by rw [(rfl : h51 48 = h51 48)]; exact ran_0 rI (by omega)⟩ | exact ⟨_, runM_step (by omega) (by omega) rM dF dL (EqM.put48 EqM.rf (by rw [(by rw [eh51]; rfl : h51 39 = h48 39), (by rw [eh48]; rfl : h48 39 = h39 39), (by rw [eh39]; rfl : h39 39 = h19 39)] : h51 39 = h19 39) (by rw [(by rw [eh51]; rfl : h51 40 = h48 40), (by rw [eh48]; rfl : h48 40 = h39 40), (by rw [eh39]; rfl : h39 40 = h19 40)] : h51 40 = h19 40) (by rw [(by rw [eh51]; rfl : h51 42 = h48 42), (by rw [eh48]; rfl : h48 42 = h39 42), (by rw [eh39]; rfl : h39 42 = h19 42)] : h51 42 = h19 42) (((by rw [(by rw [eh51]; rfl : h51 43 = h48 43), (by rw [eh48]; rfl : h48 43 = h39 43), (by rw [eh39]; rfl : h39 43 = h19 43), (eh19.1 43 (by decide) : h19 43 = hr 43), (frlhr 43 (by decide) : hr 43 = hi 43)] : h51 43 = hi 43)).trans ((dF 43 (by decide)).trans (frlhr 43 (by decide))).symm) (((by rw [(by rw [eh51]; rfl : h51 44 = h48 44), (by rw [eh48]; rfl : h48 44 = h39 44), (by rw [eh39]; rfl : h39 44 = h19 44), (eh19.1 44 (by decide) : h19 44 = hr 44), (frlhr 44 (by decide) : hr 44 = hi 44)] : h51 44 = hi 44)).trans ((dF 44 (by decide)).trans (frlhr 44 (by decide))).symm)), ran_1 rI (by omega) ⟨(by rw [(by rw [eh51]; rfl : h51 48 1 = v50)] : h51 48 1 = v50), (by rw [(by rw [eh51]; rfl : h51 48 2 = h48 48 2), (by rw [eh48]; rfl : h48 48 2 = h39 48 2), (by rw [eh39]; rfl : h39 48 2 = k)] : h51 48 2 = k), (by rw [(by rw [eh51]; rfl : h51 48 3 = h48 48 3), (by rw [eh48]; rfl : h48 48 3 = v18)] : h51 48 3 = v18)⟩ (by omega) (by omega)⟩) (⟨qL2.kp (by rw [(by rw [eh51]; rfl : h51 46 = h48 46), (by rw [eh48]; rfl : h48 46 = h39 46), (by rw [eh39]; rfl : h39 46 = h19 46), (eh19.1 46 (by decide) : h19 46 = hr 46)] : h51 46 = hr 46) (by rw [(by rw [eh51]; rfl : h51 47 = h48 47), (by rw [eh48]; rfl : h48 47 = h39 47), (by rw [eh39]; rfl : h39 47 = h19 47), (eh19.1 47 (by decide) : h19 47 = hr 47)] : h51 47 = hr 47), by rw [(by rw [(by rw [eh51]; rfl : h51 39 20 = h48 39 20), (by rw [eh48]; rfl : h48 39 20 = h39 39 20), (by rw [eh39]; rfl : h39 39 20 = h19 39 20), (eh19.2.1 20 (by decide) : h19 39 20 = hr 39 20)] : h51 39 20 = hr 39 20)]; exact r20, by rw [(by rw [(by rw [eh51]; rfl : h51 39 21 = h48 39 21), (by rw [eh48]; rfl : h48 39 21 = h39 39 21), (by rw [eh39]; rfl : h39 39 21 = h19 39 21), (eh19.2.1 21 (by decide) : h19 39 21 = hr 39 21)] : h51 39 21 = hr 39 21)]; exact r21, by rw [(by rw [(by rw [eh51]; rfl : h51 39 8 = h48 39 8), (by rw [eh48]; rfl : h48 39 8 = h39 39 8), (by rw [eh39]; rfl : h39 39 8 = h19 39 8), (eh19.2.1 8 (by decide) : h19 39 8 = hr 39 8)] : h51 39 8 = hr 39 8)]; exact r8, by rw [(by rw [(by rw [eh51]; rfl : h51 48 0 = h48 48 0), (by rw [eh48]; rfl : h48 48 0 = h39 48 0), (by rw [eh39]; rfl : h39 48 0 = h19 48 0), (congrFun (eh19.1 48 (by decide)) 0 : h19 48 0 = hr 48 0)] : h51 48 0 = hr 48 0)]; exact r48⟩) (frh51) (ff39h51) (by omega)
          exact J115 _ 0 h12 (by omega) (⟨(0, -1, 0), run_0m (EqM.of2 (by rw [(by rw [(by rw [eh12]; rfl : h12 39 6 = h11 39 6), (by rw [eh11]; rfl : h11 39 6 = h10 39 6), (by rw [eh10]; rfl : h10 39 6 = h9 39 6), (by rw [eh9]; rfl : h9 39 6 = h7 39 6), (by rw [eh7]; rfl : h7 39 6 = hk 39 6)] : h12 39 6 = hk 39 6)]; first | done | exact p2.1.1) (by rw [(by rw [(by rw [eh12]; rfl : h12 40 = h11 40), (by rw [eh11]; rfl : h11 40 = h10 40), (by rw [eh10]; rfl : h10 40 = h9 40), (by rw [eh9]; rfl : h9 40 = h7 40), (by rw [eh7]; rfl : h7 40 = hk 40)] : h12 40 = hk 40)]; first | done | exact p2.1.2.1) (by rw [(by rw [(by rw [eh12]; rfl : h12 42 = h11 42), (by rw [eh11]; rfl : h11 42 = h10 42), (by rw [eh10]; rfl : h10 42 = h9 42), (by rw [eh9]; rfl : h9 42 = h7 42), (by rw [eh7]; rfl : h7 42 = hk 42)] : h12 42 = hk 42)]; first | done | exact p2.1.2.2.1) (by rw [(by rw [(by rw [eh12]; rfl : h12 43 = h11 43), (by rw [eh11]; rfl : h11 43 = h10 43), (by rw [eh10]; rfl : h10 43 = h9 43), (by rw [eh9]; rfl : h9 43 = h7 43), (by rw [eh7]; rfl : h7 43 = hk 43), (frlhk 43 (by decide) : hk 43 = hi 43)] : h12 43 = hi 43)]) (by rw [(by rw [(by rw [eh12]; rfl : h12 44 = h11 44), (by rw [eh11]; rfl : h11 44 = h10 44), (by rw [eh10]; rfl : h10 44 = h9 44), (by rw [eh9]; rfl : h9 44 = h7 44), (by rw [eh7]; rfl : h7 44 = hk 44), (frlhk 44 (by decide) : hk 44 = hi 44)] : h12 44 = hi 44)])) rfl, by rw [(by rw [(by rw [eh12]; rfl : h12 48 1 = h11 48 1), (by rw [eh11]; rfl : h11 48 1 = h10 48 1), (by rw [eh10]; rfl : h10 48 1 = 0)] : h12 48 1 = 0)], by rw [(by rw [(by rw [eh12]; rfl : h12 48 2 = h11 48 2), (by rw [eh11]; rfl : h11 48 2 = -1)] : h12 48 2 = -1)], by rw [(by rw [(by rw [eh12]; rfl : h12 48 3 = 0)] : h12 48 3 = 0)]⟩) (⟨qL.kp (by rw [(by rw [eh12]; rfl : h12 46 = h11 46), (by rw [eh11]; rfl : h11 46 = h10 46), (by rw [eh10]; rfl : h10 46 = h9 46), (by rw [eh9]; rfl : h9 46 = h7 46), (by rw [eh7]; rfl : h7 46 = hk 46)] : h12 46 = hk 46) (by rw [(by rw [eh12]; rfl : h12 47 = h11 47), (by rw [eh11]; rfl : h11 47 = h10 47), (by rw [eh10]; rfl : h10 47 = h9 47), (by rw [eh9]; rfl : h9 47 = h7 47), (by rw [eh7]; rfl : h7 47 = hk 47)] : h12 47 = hk 47), by rw [(by rw [(by rw [eh12]; rfl : h12 39 20 = h11 39 20), (by rw [eh11]; rfl : h11 39 20 = h10 39 20), (by rw [eh10]; rfl : h10 39 20 = h9 39 20), (by rw [eh9]; rfl : h9 39 20 = h7 39 20), (by rw [eh7]; rfl : h7 39 20 = hk 39 20)] : h12 39 20 = hk 39 20)]; exact q20, by rw [(by rw [(by rw [eh12]; rfl : h12 39 21 = h11 39 21), (by rw [eh11]; rfl : h11 39 21 = h10 39 21), (by rw [eh10]; rfl : h10 39 21 = h9 39 21), (by rw [eh9]; rfl : h9 39 21 = h7 39 21), (by rw [eh7]; rfl : h7 39 21 = 1)] : h12 39 21 = 1)], by rw [(by rw [(by rw [eh12]; rfl : h12 39 8 = h11 39 8), (by rw [eh11]; rfl : h11 39 8 = h10 39 8), (by rw [eh10]; rfl : h10 39 8 = h9 39 8), (by rw [eh9]; rfl : h9 39 8 = h7 39 8), (by rw [eh7]; rfl : h7 39 8 = hk 39 8)] : h12 39 8 = hk 39 8)]; exact p2.2.2.2, by rw [(by rw [(by rw [eh12]; rfl : h12 48 0 = h11 48 0), (by rw [eh11]; rfl : h11 48 0 = h10 48 0), (by rw [eh10]; rfl : h10 48 0 = h9 48 0), (by rw [eh9]; rfl : h9 48 0 = v8)] : h12 48 0 = v8)]; omega⟩) (frh12) (ff39h12) (Nat.lt_succ_self _)
        · have s0 : S (cs S P V L) ≠ 0 := by omega
          have b4 := tk.1.pl (c := cs S P V L) (tk.1.nx b1 s0)
          refine z_aload_n (pc := 22) (x := 40) dX8_text_22 rfl 0 rfl ?_
          refine z_callV (pc := 23) (kc := kX8_line) (n := 0) (pl := 39) (ci := 7) (C := RX8) (As := []) (stk := []) ct_X8_line (gdV rfl rfl (iw28 _ (List.mem_of_getElem? (i := 4) rfl)) (iw28 _ (List.mem_of_getElem? (i := 5) rfl)) (iw28 _ (List.mem_of_getElem? (i := 6) rfl)) (iw1 _ (List.mem_of_getElem? (i := 5) rfl)) (iw28 _ (List.mem_of_getElem? (i := 7) rfl))) rfl ⟨rfl, rfl⟩ (by decide +kernel) ⟨by decide, by decide⟩ (by decide) rfl rfl dX8_text_23 rfl rfl (Nat.le_of_ble_eq_true rfl) ?_
          refine ⟨S, P, V, st, m, ((cs S P V L)), rfl, ⟨tk, by first | assumption | (rw [(rfl : hk 39 15 = hk 39 15)]; assumption), by omega⟩, fun v53 h54 eh54 => ?_⟩
          have frh54 : Fr [39, 40, 41, 42, 46, 47, 48] hi h54 := (Fr.call frlhk eh54.1 (by decide))
          have ff39h54 : FF 39 [0, 6, 8, 9, 10, 11, 12, 13, 14, 15, 16, 17, 20, 21] hi h54 := FF.call ffl39hk (eh54.2.1) (by decide)
          refine z_if_ne (pc := 26) (tgt := 37) dX8_text_26 (by decide) ⟨by omega, by omega⟩ (fun c55 => ?_) (fun c55 => ?_)
          · obtain ⟨-, cch54, veh54, nh54, hh54, oh54, wh54, th54, fh54, zh54, mh54, lh54, kh54⟩ := (eh54.2.2).resolve_right (fun q => absurd q.1 (by omega))
            have zL := zh54
            have mL := mh54
            have lL := lh54
            have kL := kh54
            refine z_aload_n (pc := 37) (x := 40) dX8_text_37 rfl 0 rfl ?_
            refine z_bipush (pc := 38) (v := 59) dX8_text_38 (by decide +kernel) ?_
            refine z_callV (pc := 40) (kc := kX8_isSign) (n := 1) (pl := 39) (ci := 7) (C := RX8) (As := [AI 59]) (stk := []) ct_X8_isSign (gdV rfl rfl (iw30 _ (List.mem_of_getElem? (i := 6) rfl)) (iw30 _ (List.mem_of_getElem? (i := 7) rfl)) (iw30 _ (List.mem_of_getElem? (i := 8) rfl)) (iw1 _ (List.mem_of_getElem? (i := 5) rfl)) (iw30 _ (List.mem_of_getElem? (i := 9) rfl))) rfl ⟨rfl, rfl⟩ (by decide +kernel) ⟨by decide, by decide⟩ (by decide) rfl rfl dX8_text_40 rfl rfl (Nat.le_of_ble_eq_true rfl) ?_
            refine ⟨_, rfl, by omega, fun v56 ev56 => ?_⟩
            have wv56 := isw ev56 (th54.sg 11 (by decide) (by decide))
            refine z_if_ne (pc := 43) (tgt := 60) dX8_text_43 (by decide) ⟨by omega, by omega⟩ (fun c57 => ?_) (fun c57 => ?_)
            · refine z_aload_n (pc := 60) (x := 40) dX8_text_60 rfl 0 rfl ?_
              refine z_callV (pc := 61) (kc := kX8_go) (n := 0) (pl := 39) (ci := 7) (C := RX8) (As := []) (stk := []) ct_X8_go2 (gdV rfl rfl (iw27 _ (List.mem_of_getElem? (i := 11) rfl)) (iw27 _ (List.mem_of_getElem? (i := 12) rfl)) (iw27 _ (List.mem_of_getElem? (i := 13) rfl)) (iw1 _ (List.mem_of_getElem? (i := 5) rfl)) (iw27 _ (List.mem_of_getElem? (i := 14) rfl))) rfl ⟨rfl, rfl⟩ (by decide +kernel) ⟨by decide, by decide⟩ (by decide) rfl rfl dX8_text_61 rfl rfl (Nat.le_of_ble_eq_true rfl) ?_
              refine ⟨S, P, V, st, m, cch54, rfl, ⟨th54, by omega, by omega⟩, fun h58 eh58 => ?_⟩
              have frh58 : Fr [39, 40, 41, 42, 46, 47, 48] hi h58 := (Fr.call frh54 eh58.1 (by decide))
              have ff39h58 : FF 39 [0, 6, 8, 9, 10, 11, 12, 13, 14, 15, 16, 17, 20, 21] hi h58 := FF.call ff39h54 (eh58.2.1) (by decide)
              have th58 : TM h58 S P V st m (cch54 + 1) := eh58.2.2
              refine z_aload_n (pc := 64) (x := 40) dX8_text_64 rfl 0 rfl ?_
              refine z_dup (pc := 65) dX8_text_65 rfl ?_
              refine z_getI (pc := 66) (pl := 39) (f := 20) (ci := 7) (C := RX8) (T := TX8) (N := 33) hu_X8 (by decide) rfl rfl (by decide) rfl (List.mem_cons_of_mem _ (iw27 _ (List.mem_of_getElem? (i := 1) rfl))) rfl (by decide) dX8_text_66 (fun v59 ev59 rv59 => ?_)
              rw [(eh58.2.1 20 (by decide) : h58 39 20 = h54 39 20), (eh54.2.1 20 (by decide) : h54 39 20 = hk 39 20)] at ev59
              refine z_iconst (pc := 69) (v := 1) dX8_text_69 rfl ?_
              refine z_iadd (pc := 70) dX8_text_70 (fun v60 ev60 => ?_)
              refine z_putI (pc := 71) (pl := 39) (f := 20) (ci := 7) (C := RX8) (T := TX8) (N := 33) hu_X8 tyX8_ok nmX8 (by decide) rfl rfl (by decide) rfl (List.mem_cons_of_mem _ (iw27 _ (List.mem_of_getElem? (i := 1) rfl))) rfl rfl (ty := .int) (by decide +kernel) rfl rfl ⟨by omega, by omega⟩ dX8_text_71 (fun h61 eh61 => ?_)
              have frh61 : Fr [39, 40, 41, 42, 46, 47, 48] hi h61 := (Fr.put frh58 eh61 (by decide))
              have ff39h61 : FF 39 [0, 6, 8, 9, 10, 11, 12, 13, 14, 15, 16, 17, 20, 21] hi h61 := FF.put ff39h58 eh61 (by decide)
              have th61 : TM h61 S P V st m (cch54 + 1) := TM.put th58 eh61 (by decide)
              refine z_goto (pc := 74) (tgt := 15) dX8_text_74 (by decide) ?_
              exact ih15 h61 (⟨L + 1, by rw [(by rw [(by rw [eh61]; rfl : h61 39 20 = v60)] : h61 39 20 = v60)]; omega, (ln_step qL q20 s0 zL (by omega) mL lL kL).1.kp (by rw [(by rw [eh61]; rfl : h61 46 = h58 46), (eh58.1 46 (by decide) : h58 46 = h54 46)] : h61 46 = h54 46) (by rw [(by rw [eh61]; rfl : h61 47 = h58 47), (eh58.1 47 (by decide) : h58 47 = h54 47)] : h61 47 = h54 47), by rw [(ln_step qL q20 s0 zL (by omega) mL lL kL).2]; exact th61⟩) (by first | assumption | (rw [(by rw [(by rw [eh61]; rfl : h61 39 15 = h58 39 15), (eh58.2.1 15 (by decide) : h58 39 15 = h54 39 15)] : h61 39 15 = h54 39 15)]; assumption)) (⟨EqM.of2 (by rw [(by rw [(by rw [eh61]; rfl : h61 39 6 = h58 39 6), (eh58.2.1 6 (by decide) : h58 39 6 = h54 39 6), (eh54.2.1 6 (by decide) : h54 39 6 = hk 39 6)] : h61 39 6 = hk 39 6)]; first | done | exact p2.1.1) (by rw [(by rw [(by rw [eh61]; rfl : h61 40 = h58 40), (eh58.1 40 (by decide) : h58 40 = h54 40), (eh54.1 40 (by decide) : h54 40 = hk 40)] : h61 40 = hk 40)]; first | done | exact p2.1.2.1) (by rw [(by rw [(by rw [eh61]; rfl : h61 42 = h58 42), (eh58.1 42 (by decide) : h58 42 = h54 42), (eh54.1 42 (by decide) : h54 42 = hk 42)] : h61 42 = hk 42)]; first | done | exact p2.1.2.2.1) (by rw [(by rw [(by rw [eh61]; rfl : h61 43 = h58 43), (eh58.1 43 (by decide) : h58 43 = h54 43), (eh54.1 43 (by decide) : h54 43 = hk 43), (frlhk 43 (by decide) : hk 43 = hi 43)] : h61 43 = hi 43)]) (by rw [(by rw [(by rw [eh61]; rfl : h61 44 = h58 44), (eh58.1 44 (by decide) : h58 44 = h54 44), (eh54.1 44 (by decide) : h54 44 = hk 44), (frlhk 44 (by decide) : hk 44 = hi 44)] : h61 44 = hi 44)]), by rw [(by rw [(by rw [eh61]; rfl : h61 48 = h58 48), (eh58.1 48 (by decide) : h58 48 = h54 48), (eh54.1 48 (by decide) : h54 48 = hk 48)] : h61 48 = hk 48)]; exact p2.2.1, by rw [(by rw [(by rw [eh61]; rfl : h61 39 21 = h58 39 21), (eh58.2.1 21 (by decide) : h58 39 21 = h54 39 21), (eh54.2.1 21 (by decide) : h54 39 21 = hk 39 21)] : h61 39 21 = hk 39 21)]; exact p2.2.2.1, by rw [(by rw [(by rw [eh61]; rfl : h61 39 8 = h58 39 8), (eh58.2.1 8 (by decide) : h58 39 8 = h54 39 8), (eh54.2.1 8 (by decide) : h54 39 8 = hk 39 8)] : h61 39 8 = hk 39 8)]; exact p2.2.2.2⟩) (frh61) (ff39h61) (by rw [(by rw [(by rw [eh61]; rfl : h61 39 20 = v60)] : h61 39 20 = v60)]; omega)
            · refine z_aload_n (pc := 46) (x := 40) dX8_text_46 rfl 0 rfl ?_
              refine z_iconst (pc := 47) (v := 1) dX8_text_47 rfl ?_
              refine z_callV (pc := 48) (kc := kX8_bad) (n := 1) (pl := 39) (ci := 7) (C := RX8) (As := [AI 1]) (stk := []) ct_X8_bad2 (gdV rfl rfl (iw29 _ (List.mem_of_getElem? (i := 8) rfl)) (iw29 _ (List.mem_of_getElem? (i := 9) rfl)) (iw29 _ (List.mem_of_getElem? (i := 10) rfl)) (iw1 _ (List.mem_of_getElem? (i := 5) rfl)) (iw29 _ (List.mem_of_getElem? (i := 11) rfl))) rfl ⟨rfl, rfl⟩ (by decide +kernel) ⟨by decide, by decide⟩ (by decide) rfl rfl dX8_text_48 rfl rfl (Nat.le_of_ble_eq_true rfl) ?_
              refine ⟨_, rfl, by omega, fun v62 h63 eh63 => ?_⟩
              have frh63 : Fr [39, 40, 41, 42, 46, 47, 48] hi h63 := (Fr.call frh54 eh63.1 (by decide))
              have ff39h63 : FF 39 [0, 6, 8, 9, 10, 11, 12, 13, 14, 15, 16, 17, 20, 21] hi h63 := FF.call ff39h54 (eh63.2.1) (by decide)
              have th63 : TM h63 S P V st m cch54 := TM.fr th54 eh63.1 eh63.2.1 (by decide) (by decide)
              have xh63 := bad_flt th54 (by skip; try rw [(rfl : h54 39 15 = h54 39 15)]; assumption) eh63.2.2.2
              have zz := se_flt zL (bF (by assumption) (by assumption))
              have xx := xh63.1
              refine z_pop (pc := 51) dX8_text_51 rfl ?_
              refine z_bipush (pc := 52) (v := (-2)) dX8_text_52 (by decide +kernel) ?_
              refine z_aload_n (pc := 54) (x := 40) dX8_text_54 rfl 0 rfl ?_
              refine z_getI (pc := 55) (pl := 39) (f := 15) (ci := 7) (C := RX8) (T := TX8) (N := 33) hu_X8 (by decide) rfl rfl (by decide) rfl (List.mem_cons_of_mem _ (iw27 _ (List.mem_of_getElem? (i := 3) rfl))) rfl (by decide) dX8_text_55 (fun v64 ev64 rv64 => ?_)
              refine z_isub (pc := 58) dX8_text_58 (fun v65 ev65 => ?_)
              refine z_iret (pc := 59) rfl dX8_text_59 ?_
              exact hQ v65 h63 ⟨frh63, ff39h63, by first | exact Or.inl ⟨rfl, by omega, z1⟩ | exact Or.inr ⟨by omega, by rw [(by rw [(eh63.2.1 8 (by decide) : h63 39 8 = h54 39 8), (eh54.2.1 8 (by decide) : h54 39 8 = hk 39 8)] : h63 39 8 = hk 39 8)]; exact p2.2.2.2, L, qL.ok, Or.inl ⟨s0, ⟨_, zz, by omega⟩, EqM.of2 (by rw [(by rw [(eh63.2.1 6 (by decide) : h63 39 6 = h54 39 6), (eh54.2.1 6 (by decide) : h54 39 6 = hk 39 6)] : h63 39 6 = hk 39 6)]; first | done | exact p2.1.1) (by rw [(by rw [(eh63.1 40 (by decide) : h63 40 = h54 40), (eh54.1 40 (by decide) : h54 40 = hk 40)] : h63 40 = hk 40)]; first | done | exact p2.1.2.1) (by rw [(by rw [(eh63.1 42 (by decide) : h63 42 = h54 42), (eh54.1 42 (by decide) : h54 42 = hk 42)] : h63 42 = hk 42)]; first | done | exact p2.1.2.2.1) (by rw [(by rw [(eh63.1 43 (by decide) : h63 43 = h54 43), (eh54.1 43 (by decide) : h54 43 = hk 43), (frlhk 43 (by decide) : hk 43 = hi 43)] : h63 43 = hi 43)]) (by rw [(by rw [(eh63.1 44 (by decide) : h63 44 = h54 44), (eh54.1 44 (by decide) : h54 44 = hk 44), (frlhk 44 (by decide) : hk 44 = hi 44)] : h63 44 = hi 44)]), by rw [(by rw [(eh63.2.1 21 (by decide) : h63 39 21 = h54 39 21), (eh54.2.1 21 (by decide) : h54 39 21 = hk 39 21)] : h63 39 21 = hk 39 21)]; exact p2.2.2.1, by rw [(by rw [(eh63.1 48 (by decide) : h63 48 = h54 48), (eh54.1 48 (by decide) : h54 48 = hk 48)] : h63 48 = hk 48)]; exact p2.2.1⟩⟩ | exact Or.inr ⟨by omega, r8, L, qL.ok, Or.inr ⟨s0, by omega, r, by rw [show L = k.toNat by omega]; exact rM, r21, r48, rI.1, rI.2.1, rI.2.2, by omega⟩⟩⟩
          · obtain ⟨-, ph54, xh54, zh54⟩ := (eh54.2.2).resolve_left (fun q => absurd q.1 (by omega))
            have zz := zh54
            have xx := xh54.1
            refine z_bipush (pc := 29) (v := (-2)) dX8_text_29 (by decide +kernel) ?_
            refine z_aload_n (pc := 31) (x := 40) dX8_text_31 rfl 0 rfl ?_
            refine z_getI (pc := 32) (pl := 39) (f := 15) (ci := 7) (C := RX8) (T := TX8) (N := 33) hu_X8 (by decide) rfl rfl (by decide) rfl (List.mem_cons_of_mem _ (iw27 _ (List.mem_of_getElem? (i := 3) rfl))) rfl (by decide) dX8_text_32 (fun v66 ev66 rv66 => ?_)
            refine z_isub (pc := 35) dX8_text_35 (fun v67 ev67 => ?_)
            refine z_iret (pc := 36) rfl dX8_text_36 ?_
            exact hQ v67 h54 ⟨frh54, ff39h54, by first | exact Or.inl ⟨rfl, by omega, z1⟩ | exact Or.inr ⟨by omega, by rw [(by rw [(eh54.2.1 8 (by decide) : h54 39 8 = hk 39 8)] : h54 39 8 = hk 39 8)]; exact p2.2.2.2, L, qL.ok, Or.inl ⟨s0, ⟨_, zz, by omega⟩, EqM.of2 (by rw [(by rw [(eh54.2.1 6 (by decide) : h54 39 6 = hk 39 6)] : h54 39 6 = hk 39 6)]; first | done | exact p2.1.1) (by rw [(by rw [(eh54.1 40 (by decide) : h54 40 = hk 40)] : h54 40 = hk 40)]; first | done | exact p2.1.2.1) (by rw [(by rw [(eh54.1 42 (by decide) : h54 42 = hk 42)] : h54 42 = hk 42)]; first | done | exact p2.1.2.2.1) (by rw [(by rw [(eh54.1 43 (by decide) : h54 43 = hk 43), (frlhk 43 (by decide) : hk 43 = hi 43)] : h54 43 = hi 43)]) (by rw [(by rw [(eh54.1 44 (by decide) : h54 44 = hk 44), (frlhk 44 (by decide) : hk 44 = hi 44)] : h54 44 = hi 44)]), by rw [(by rw [(eh54.2.1 21 (by decide) : h54 39 21 = hk 39 21)] : h54 39 21 = hk 39 21)]; exact p2.2.2.1, by rw [(by rw [(eh54.1 48 (by decide) : h54 48 = hk 48)] : h54 48 = hk 48)]; exact p2.2.1⟩⟩ | exact Or.inr ⟨by omega, r8, L, qL.ok, Or.inr ⟨s0, by omega, r, by rw [show L = k.toNat by omega]; exact rM, r21, r48, rI.1, rI.2.1, rI.2.2, by omega⟩⟩⟩
    exact J15 _ h4 (⟨0, (by rw [(by rw [eh4]; rfl : h4 39 20 = 0)] : h4 39 20 = 0), fun i hi0 => absurd hi0 (Nat.not_lt_zero _), th4⟩) (by first | assumption | (rw [(by rw [(by rw [eh4]; rfl : h4 39 15 = h2 39 15)] : h4 39 15 = h2 39 15)]; assumption)) (⟨EqM.of2 (by rw [(by rw [(by rw [eh4]; rfl : h4 39 6 = h2 39 6), (eh2.2.1 6 (by decide) : h2 39 6 = hi 39 6)] : h4 39 6 = hi 39 6)]; first | done | exact p2.1.1) (by rw [(by rw [(by rw [eh4]; rfl : h4 40 = h2 40), (eh2.1 40 (by decide) : h2 40 = hi 40)] : h4 40 = hi 40)]; first | done | exact p2.1.2.1) (by rw [(by rw [(by rw [eh4]; rfl : h4 42 = h2 42), (eh2.1 42 (by decide) : h2 42 = hi 42)] : h4 42 = hi 42)]; first | done | exact p2.1.2.2.1) (by rw [(by rw [(by rw [eh4]; rfl : h4 43 = h2 43), (eh2.1 43 (by decide) : h2 43 = hi 43)] : h4 43 = hi 43)]) (by rw [(by rw [(by rw [eh4]; rfl : h4 44 = h2 44), (eh2.1 44 (by decide) : h2 44 = hi 44)] : h4 44 = hi 44)]), by rw [(by rw [(by rw [eh4]; rfl : h4 48 = h2 48), (eh2.1 48 (by decide) : h2 48 = hi 48)] : h4 48 = hi 48)], by rw [(by rw [(by rw [eh4]; rfl : h4 39 21 = h2 39 21), (eh2.2.1 21 (by decide) : h2 39 21 = hi 39 21)] : h4 39 21 = hi 39 21)], by first | assumption | (rw [(by rw [(by rw [eh4]; rfl : h4 39 8 = h2 39 8)] : h4 39 8 = h2 39 8)]; assumption)⟩) (frh4) (ff39h4) (Nat.lt_succ_self _)
  · obtain ⟨-, rh2, z1⟩ := (eh2.2.2).resolve_right (fun q => absurd q.1 (by omega))
    refine z_iconst (pc := 8) (v := (-1)) dX8_text_8 rfl ?_
    refine z_iret (pc := 9) rfl dX8_text_9 ?_
    exact hQ (-1) h2 ⟨frh2, ff39h2, by first | exact Or.inl ⟨rfl, by omega, z1⟩ | exact Or.inr ⟨by omega, by rw [(rfl : h2 39 8 = h2 39 8)]; exact p2.2.2.2, L, qL.ok, Or.inl ⟨s0, ⟨_, zz, by omega⟩, EqM.of2 (by rw [(by rw [(eh2.2.1 6 (by decide) : h2 39 6 = hi 39 6)] : h2 39 6 = hi 39 6)]; first | done | exact p2.1.1) (by rw [(by rw [(eh2.1 40 (by decide) : h2 40 = hi 40)] : h2 40 = hi 40)]; first | done | exact p2.1.2.1) (by rw [(by rw [(eh2.1 42 (by decide) : h2 42 = hi 42)] : h2 42 = hi 42)]; first | done | exact p2.1.2.2.1) (by rw [(by rw [(eh2.1 43 (by decide) : h2 43 = hi 43)] : h2 43 = hi 43)]) (by rw [(by rw [(eh2.1 44 (by decide) : h2 44 = hi 44)] : h2 44 = hi 44)]), by rw [(by rw [(eh2.2.1 21 (by decide) : h2 39 21 = hi 39 21)] : h2 39 21 = hi 39 21)]; exact p2.2.2.1, by rw [(by rw [(eh2.1 48 (by decide) : h2 48 = hi 48)] : h2 48 = hi 48)]; exact p2.2.1⟩⟩ | exact Or.inr ⟨by omega, r8, L, qL.ok, Or.inr ⟨s0, by omega, r, by rw [show L = k.toNat by omega]; exact rM, r21, r48, rI.1, rI.2.1, rI.2.2, by omega⟩⟩⟩

/-! the plain form's codes and what waits -/
def apC (x : Int) (s : List Ex) : List Ex := if x / 1000 = 0 then (fun _ => x % 1000) :: s else if x / 1000 = 1 then (fun φ => φ (x % 1000).toNat) :: s else if x / 1000 = 7 then nt (s.headD z0E) :: s.tail else bin (x / 1000) (s.tail.headD z0E) (s.headD z0E) :: s.tail.tail
def evC (f : Nat → Int) : Nat → List Ex
  | 0 => []
  | n + 1 => apC (f n) (evC f n)
def QB (g : Ex) : Prop := ∀ φ, g φ = 0 ∨ g φ = 1
def okX (x : Int) (s : List Ex) : Prop := (0 ≤ x ∧ x < 11000) ∧ (x / 1000 = 1 → x % 1000 < 6) ∧ (x / 1000 = 7 → 1 ≤ s.length) ∧ (x / 1000 ≠ 0 → x / 1000 ≠ 1 → x / 1000 ≠ 7 → 2 ≤ s.length ∧ (8 ≤ x / 1000 → QB (s.tail.headD z0E) ∧ QB (s.headD z0E)))
def okC (f : Nat → Int) (n : Nat) : Prop := ∀ k, k < n → okX (f k) (evC f k)
theorem evC_same {f g : Nat → Int} : ∀ {n : Nat}, (∀ k, k < n → g k = f k) → evC g n = evC f n
  | 0, _ => rfl
  | n + 1, h => by
    show apC (g n) (evC g n) = apC (f n) (evC f n)
    rw [h n (by omega), evC_same (fun k hk => h k (by omega))]
def CM (hi : HI) (G : List Ex) : Prop := 0 ≤ hi 39 24 ∧ evC (hi 49) (hi 39 24).toNat = G ∧ okC (hi 49) (hi 39 24).toNat
theorem CM.code {hi h2 : HI} {G : List Ex} {x : Int} (h : CM hi G) (e : h2 49 = updI (hi 49) (hi 39 24).toNat x) (e24 : h2 39 24 = hi 39 24 + 1) (ok : okX x G) : CM h2 (apC x G) := by
  obtain ⟨a, b, c⟩ := h
  have en : (h2 39 24).toNat = (hi 39 24).toNat + 1 := by omega
  have lo : ∀ k, k < (hi 39 24).toNat → h2 49 k = hi 49 k := fun k hk => by rw [e]; exact updI_ne _ _ (by omega)
  have at0 : h2 49 (hi 39 24).toNat = x := by rw [e]; exact updI_same _ _ _
  refine ⟨by omega, ?_, ?_⟩
  · rw [en]
    show apC (h2 49 _) (evC (h2 49) _) = _
    rw [at0, evC_same lo, b]
  · rw [en]
    intro k hk
    by_cases q : k = (hi 39 24).toNat
    · rw [q, at0, evC_same lo, b]; exact ok
    · rw [lo k (by omega), evC_same (fun j hj => lo j (by omega))]; exact c k (by omega)
theorem CM.kp {hi h2 : HI} {G : List Ex} (h : CM hi G) (e : h2 49 = hi 49) (e24 : h2 39 24 = hi 39 24) : CM h2 G := by
  unfold CM; rw [e, e24]; exact h
theorem CM.nil {hi : HI} (h : hi 39 24 = 0) : CM hi [] := by
  unfold CM; rw [h]; exact ⟨Int.le_refl 0, rfl, fun k hk => absurd hk (Nat.not_lt_zero _)⟩
theorem okX_n {v : Int} {s : List Ex} (h : 0 ≤ v ∧ v < 1000) : okX v s := ⟨by omega, fun q => by omega, fun q => by omega, fun q => by omega⟩
theorem apC_n {v : Int} {s : List Ex} (h : 0 ≤ v ∧ v < 1000) : apC v s = (fun _ => v) :: s := by
  unfold apC; rw [if_pos (by omega), show v % 1000 = v by omega]
theorem okX_f {v : Int} {s : List Ex} (h : 0 ≤ v ∧ v < 6) : okX (1000 + v) s := ⟨by omega, fun q => by omega, fun q => by omega, fun q => by omega⟩
theorem apC_f {v : Int} {s : List Ex} (h : 0 ≤ v ∧ v < 6) : apC (1000 + v) s = (fun φ => φ v.toNat) :: s := by
  unfold apC; rw [if_neg (by omega), if_pos (by omega), show (1000 + v) % 1000 = v by omega]
theorem okX_o {o : Int} {a b : Ex} {s : List Ex} (h : 2 ≤ o ∧ o ≤ 6) : okX (1000 * o) (b :: a :: s) := ⟨by omega, fun q => by omega, fun q => by omega, fun _ _ _ => ⟨by simp, fun q => by omega⟩⟩
theorem apC_o {o : Int} {a b : Ex} {s : List Ex} (h : (2 ≤ o ∧ o ≤ 6) ∨ o = 8 ∨ o = 9) : apC (1000 * o) (b :: a :: s) = bin o a b :: s := by
  unfold apC
  have e : 1000 * o / 1000 = o := by omega
  rw [e, if_neg (by omega), if_neg (by omega), if_neg (by omega)]; rfl
theorem okX_b {o : Int} {a b : Ex} {s : List Ex} (h : o = 8 ∨ o = 9) (ha : QB a) (hb : QB b) : okX (1000 * o) (b :: a :: s) := ⟨by omega, fun q => by omega, fun q => by omega, fun _ _ _ => ⟨by simp, fun _ => ⟨ha, hb⟩⟩⟩
theorem okX_7 {g : Ex} {s : List Ex} : okX 7000 (g :: s) := ⟨by omega, fun q => by omega, fun _ => by simp, fun _ _ q => absurd rfl q⟩
theorem apC_7 {g : Ex} {s : List Ex} : apC 7000 (g :: s) = nt g :: s := by
  unfold apC; rw [if_neg (by decide), if_neg (by decide), if_pos (by decide)]; rfl
/-- what waits, the latest first -/
def rdW (f : Nat → Int) : Nat → List Int
  | 0 => []
  | n + 1 => f n :: rdW f n
theorem rdW_same {f g : Nat → Int} : ∀ {n : Nat}, (∀ k, k < n → g k = f k) → rdW g n = rdW f n
  | 0, _ => rfl
  | n + 1, h => by
    show g n :: rdW g n = f n :: rdW f n
    rw [h n (by omega), rdW_same (fun k hk => h k (by omega))]
theorem rdW_mem {f : Nat → Int} {x : Int} : ∀ {n : Nat}, x ∈ rdW f n ↔ ∃ k : Int, 0 ≤ k ∧ k < n ∧ f k.toNat = x
  | 0 => ⟨fun h => absurd h List.not_mem_nil, fun ⟨k, a, b, _⟩ => by omega⟩
  | n + 1 => by
    show x ∈ f n :: rdW f n ↔ _
    rw [List.mem_cons, rdW_mem (n := n)]
    constructor
    · rintro (h | ⟨k, a, b, c⟩)
      · exact ⟨n, by omega, by omega, by rw [Int.toNat_natCast]; exact h.symm⟩
      · exact ⟨k, a, by omega, c⟩
    · rintro ⟨k, a, b, c⟩
      by_cases q : k = n
      · left; rw [← c, q, Int.toNat_natCast]
      · right; exact ⟨k, a, by omega, c⟩
def WM (hi : HI) (W : List Int) : Prop := 0 ≤ hi 39 26 ∧ rdW (hi 50) (hi 39 26).toNat = W
theorem WM.kp {hi h2 : HI} {W : List Int} (h : WM hi W) (e : h2 50 = hi 50) (e26 : h2 39 26 = hi 39 26) : WM h2 W := by
  unfold WM; rw [e, e26]; exact h
theorem WM.nil {hi : HI} (h : hi 39 26 = 0) : WM hi [] := by unfold WM; rw [h]; exact ⟨Int.le_refl 0, rfl⟩
theorem WM.push {hi h2 : HI} {W : List Int} {x : Int} (h : WM hi W) (e : h2 50 = updI (hi 50) (hi 39 26).toNat x) (e26 : h2 39 26 = hi 39 26 + 1) : WM h2 (x :: W) := by
  obtain ⟨a, b⟩ := h
  refine ⟨by omega, ?_⟩
  rw [show (h2 39 26).toNat = (hi 39 26).toNat + 1 by omega]
  show h2 50 _ :: rdW (h2 50) _ = _
  rw [rdW_same (f := hi 50) (fun k hk => by rw [e]; exact updI_ne _ _ (by omega)), b, e, updI_same]
theorem WM.pop {hi h2 : HI} {W : List Int} {x : Int} (h : WM hi (x :: W)) (e : h2 50 = hi 50) (e26 : h2 39 26 = hi 39 26 - 1) : WM h2 W := by
  obtain ⟨a, b⟩ := h
  have p : 0 < (hi 39 26).toNat := by
    apply Classical.byContradiction; intro q
    rw [show (hi 39 26).toNat = 0 by omega] at b; cases b
  refine ⟨by omega, ?_⟩
  rw [e, show (h2 39 26).toNat = (hi 39 26).toNat - 1 by omega]
  rw [show (hi 39 26).toNat = (hi 39 26).toNat - 1 + 1 by omega] at b
  have b2 : hi 50 ((hi 39 26).toNat - 1) :: rdW (hi 50) ((hi 39 26).toNat - 1) = x :: W := b
  exact (List.cons.inj b2).2
theorem WM.top {hi : HI} {W : List Int} (h : WM hi W) : (hi 39 26 = 0 ∧ W = []) ∨ (0 < hi 39 26 ∧ ∃ W2, W = hi 50 (hi 39 26 - 1).toNat :: W2) := by
  obtain ⟨a, b⟩ := h
  by_cases q : hi 39 26 = 0
  · left; rw [q] at b; exact ⟨q, b.symm⟩
  · right
    refine ⟨by omega, rdW (hi 50) ((hi 39 26).toNat - 1), ?_⟩
    rw [← b, show (hi 39 26).toNat = (hi 39 26).toNat - 1 + 1 by omega, show (hi 39 26 - 1).toNat = (hi 39 26).toNat - 1 by omega]; rfl
theorem WM.len {hi : HI} {W : List Int} (h : WM hi W) : (W.length : Int) = hi 39 26 := by
  obtain ⟨a, b⟩ := h
  have key : ∀ (f : Nat → Int) (n : Nat), (rdW f n).length = n := fun f n => by
    induction n with
    | zero => rfl
    | succ n ih => show (f n :: rdW f n).length = n + 1; rw [List.length_cons, ih]
  rw [← b, key]; omega
def okW : List Int → Prop
  | [] => True
  | x :: W => (x = 7 ∨ x = 8 ∨ x = 9 ∨ x = 10) ∧ (x = 8 → topW W ≠ 7 ∧ topW W ≠ 8) ∧ (x = 9 → topW W ≠ 7 ∧ topW W ≠ 8 ∧ topW W ≠ 9) ∧ okW W
def bcW : List Int → Nat
  | [] => 0
  | x :: W => (if x = 8 ∨ x = 9 then 1 else 0) + bcW W
/-- the plain form's state while it reads a condition: md 0 ahead of a fact, 1 behind one -/
def QS (hi : HI) (S P V st : Nat → Int) (m : Nat) (oh : Int) (md c : Nat) (W : List Int) (G : List Ex) : Prop := TM hi S P V st m c ∧ WM hi W ∧ CM hi G ∧ (hi 39 27 = opn W ∧ opn W ≤ 5) ∧ hi 39 24 + hi 39 26 ≤ c ∧ hi 39 15 = -1 ∧ (∀ g ∈ G, QG oh g) ∧ bcW W + md = G.length ∧ okW W ∧ hi 39 28 = oh ∧ (oh = 0 ∨ oh = 1)
def FLK (hi : HI) (k p : Int) : Prop := hi 39 15 = p ∧ hi 39 16 = k
theorem bad_flk {hi h2 : HI} {S P V st : Nat → Int} {m c : Nat} {k : Int} (t : TM hi S P V st m c) (h15 : hi 39 15 = -1) (e : h2 = badH hi k) : FLK h2 k (P c) := by
  unfold badH at e
  rw [if_pos h15] at e
  refine ⟨?_, ?_⟩
  · rw [e, hput_same, updI_ne _ _ (by decide), updI_same]; exact t.2.2.1
  · rw [e, hput_same, updI_same]
theorem TM.adv {h h2 : HI} {S P V st : Nat → Int} {m c c2 : Nat} (t : TM h S P V st m c) (t2 : TM h2 S P V st m c2) (hc : c < c2) : (601 - h2 39 10).toNat < (601 - h 39 10).toNat := by
  have e1 := t.2.2.1
  have e2 := t2.2.2.1
  have f := t2.1.far (c := c) (c2 - c) (by have := t2.2.1; omega)
  rw [show c + (c2 - c) = c2 by omega] at f
  have b := t2.1.p_bd t2.2.1
  have n := t2.1.1
  omega
theorem FI1_sp {s : Int} (h : 0 ≤ s ∧ s < 41) : (s = 36 ∧ FIq 1 s = 0) ∨ (s = 37 ∧ FIq 1 s = 1) ∨ (s = 38 ∧ FIq 1 s = 2) ∨ (s = 39 ∧ FIq 1 s = 3) ∨ (s = 40 ∧ FIq 1 s = 4) ∨ ((s < 36) ∧ FIq 1 s = -1) := by
  have key : ∀ k : Fin 41, ((k.val : Int) = 36 ∧ FIq 1 k.val = 0) ∨ ((k.val : Int) = 37 ∧ FIq 1 k.val = 1) ∨ ((k.val : Int) = 38 ∧ FIq 1 k.val = 2) ∨ ((k.val : Int) = 39 ∧ FIq 1 k.val = 3) ∨ ((k.val : Int) = 40 ∧ FIq 1 k.val = 4) ∨ (((k.val : Int) < 36) ∧ FIq 1 k.val = -1) := by decide +kernel
  have q := key ⟨s.toNat, by omega⟩
  simp only [show ((s.toNat : Nat) : Int) = s by omega] at q; exact q
theorem FI0_sp {s : Int} (h : 0 ≤ s ∧ s < 41) : (s = 30 ∧ FIq 0 s = 0) ∨ (s = 31 ∧ FIq 0 s = 1) ∨ (s = 32 ∧ FIq 0 s = 2) ∨ (s = 33 ∧ FIq 0 s = 3) ∨ (s = 34 ∧ FIq 0 s = 4) ∨ (s = 35 ∧ FIq 0 s = 5) ∨ ((s < 30 ∨ 35 < s) ∧ FIq 0 s = -1) := by
  have key : ∀ k : Fin 41, ((k.val : Int) = 30 ∧ FIq 0 k.val = 0) ∨ ((k.val : Int) = 31 ∧ FIq 0 k.val = 1) ∨ ((k.val : Int) = 32 ∧ FIq 0 k.val = 2) ∨ ((k.val : Int) = 33 ∧ FIq 0 k.val = 3) ∨ ((k.val : Int) = 34 ∧ FIq 0 k.val = 4) ∨ ((k.val : Int) = 35 ∧ FIq 0 k.val = 5) ∨ (((k.val : Int) < 30 ∨ 35 < (k.val : Int)) ∧ FIq 0 k.val = -1) := by decide +kernel
  have q := key ⟨s.toNat, by omega⟩
  simp only [show ((s.toNat : Nat) : Int) = s by omega] at q; exact q

theorem valF_f {oh : Int} {S P V : Nat → Int} {c : Nat} {f : Int} (h2 : ¬ S c = 2) (hf : f = FIq oh (S c)) (h0 : 0 ≤ f) : valF oh S P V c = .inr (fun φ => φ f.toNat) := by
  subst hf; unfold valF; rw [if_neg h2, if_pos h0]
theorem updI_cn {f : Nat → Int} {a b : Nat} {x y : Int} (h : a = b) (e : x = y) : updI f a x = updI f b y := by rw [h, e]

abbrev kX8_code : Kd := (cX8_code, .code yX8_code cX8_code 3 none :: wsL_law0, rmL 1, RX8, none, 3)
theorem ct_X8_code : Ct kX8_code yX8_code (fun a hi Q => ∃ o : Int, ∃ x : Int, a = [AR 40, AI o, AI x] ∧ ((0 ≤ hi 39 24 ∧ hi 39 24 < 700) ∧ (0 ≤ o ∧ o ≤ 10) ∧ 0 ≤ x ∧ x < 1000) ∧ ∀ h2 : HI, (Fr [39, 49] hi h2 ∧ FF 39 [24] hi h2 ∧ (h2 49 = updI (hi 49) (hi 39 24).toNat (1000 * o + x) ∧ h2 39 24 = hi 39 24 + 1)) → Q AU h2) := by
  refine Ct.of (ws' := _) (by decide +kernel) rfl rfl ?_
  intro a hi Q hT
  obtain ⟨o, x, rfl, hpre, hQ⟩ := hT
  refine ⟨Nat.le_of_ble_eq_true rfl, ?_⟩
  show Z kX8_code Q 0 [(0, AR 40), (1, AI o), (2, AI x)] [] hi
  refine z_aload_n (pc := 0) (x := 40) dX8_code_0 rfl 0 rfl ?_
  refine z_getR (pc := 1) (pl := 39) (f := 23) (ci := 7) (C := RX8) (T := TX8) (N := 33) hu_X8 (by decide) rfl rfl (by decide) rfl (List.mem_cons_of_mem _ (iw5 _ (List.mem_of_getElem? (i := 15) rfl))) rfl dX8_code_1 ?_
  refine z_aload_n (pc := 4) (x := 40) dX8_code_4 rfl 0 rfl ?_
  refine z_getI (pc := 5) (pl := 39) (f := 24) (ci := 7) (C := RX8) (T := TX8) (N := 33) hu_X8 (by decide) rfl rfl (by decide) rfl (List.mem_cons_of_mem _ (iw36 _ (List.mem_of_getElem? (i := 5) rfl))) rfl (by decide) dX8_code_5 (fun v1 ev1 rv1 => ?_)
  refine z_sipush (pc := 8) (v := 1000) dX8_code_8 (by decide +kernel) ?_
  refine z_iload_n (pc := 11) dX8_code_11 rfl 1 rfl ?_
  refine z_imul (pc := 12) dX8_code_12 (fun v2 ev2 => ?_)
  refine z_iload_n (pc := 13) dX8_code_13 rfl 2 rfl ?_
  refine z_iadd (pc := 14) dX8_code_14 (fun v3 ev3 => ?_)
  refine z_iast (pc := 15) (pl := 49) (by decide) rfl (by decide) (by omega) (by omega) ⟨by omega, by omega⟩ dX8_code_15 (fun h4 eh4 => ?_)
  have frh4 : Fr [39, 49] hi h4 := (Fr.put (Fr.rf) eh4 (by decide))
  have ff39h4 : FF 39 [24] hi h4 := FF.oth (FF.rf) eh4 (by decide)
  have u15 : h4 49 = updI (hi 49) (hi 39 24).toNat (1000 * o + x) := by rw [eh4, hput_same]; exact updI_c (by omega) (by omega)
  refine z_aload_n (pc := 16) (x := 40) dX8_code_16 rfl 0 rfl ?_
  refine z_dup (pc := 17) dX8_code_17 rfl ?_
  refine z_getI (pc := 18) (pl := 39) (f := 24) (ci := 7) (C := RX8) (T := TX8) (N := 33) hu_X8 (by decide) rfl rfl (by decide) rfl (List.mem_cons_of_mem _ (iw36 _ (List.mem_of_getElem? (i := 5) rfl))) rfl (by decide) dX8_code_18 (fun v5 ev5 rv5 => ?_)
  rw [(by rw [eh4]; rfl : h4 39 24 = hi 39 24)] at ev5
  refine z_iconst (pc := 21) (v := 1) dX8_code_21 rfl ?_
  refine z_iadd (pc := 22) dX8_code_22 (fun v6 ev6 => ?_)
  refine z_putI (pc := 23) (pl := 39) (f := 24) (ci := 7) (C := RX8) (T := TX8) (N := 33) hu_X8 tyX8_ok nmX8 (by decide) rfl rfl (by decide) rfl (List.mem_cons_of_mem _ (iw36 _ (List.mem_of_getElem? (i := 5) rfl))) rfl rfl (ty := .int) (by decide +kernel) rfl rfl ⟨by omega, by omega⟩ dX8_code_23 (fun h7 eh7 => ?_)
  have frh7 : Fr [39, 49] hi h7 := (Fr.put frh4 eh7 (by decide))
  have ff39h7 : FF 39 [24] hi h7 := FF.put ff39h4 eh7 (by decide)
  refine z_vret (pc := 26) rfl dX8_code_26 ?_
  exact hQ h7 ⟨frh7, ff39h7, ⟨by rw [(by rw [(by rw [eh7]; rfl : h7 49 = h4 49)] : h7 49 = h4 49), u15], by rw [(by rw [(by rw [eh7]; rfl : h7 39 24 = v6)] : h7 39 24 = v6)]; omega⟩⟩

abbrev kX8_field : Kd := (cX8_field, .code yX8_field cX8_field 1 (some .int) :: wsL_law0, rmL 2, RX8, (some .int), 1)
theorem ct_X8_field : Ct kX8_field yX8_field (fun a hi Q => ∃ S : Nat → Int, ∃ P : Nat → Int, ∃ V : Nat → Int, ∃ st : Nat → Int, ∃ m : Nat, ∃ c : Nat, a = [AR 40] ∧ (TM hi S P V st m c ∧ (hi 39 28 = 0 ∨ hi 39 28 = 1)) ∧ ∀ v : Int, (v = FIq (hi 39 28) (S c)) → Q (AI v) hi) := by
  refine Ct.of (ws' := _) (by decide +kernel) rfl rfl ?_
  intro a hi Q hT
  obtain ⟨S, P, V, st, m, c, rfl, hpre, hQ⟩ := hT
  refine ⟨Nat.le_of_ble_eq_true rfl, ?_⟩
  show Z kX8_field Q 0 [(0, AR 40)] [] hi
  have t0 := hpre.1
  have sg := t0.1.sg_rg t0.2.1
  refine z_aload_n (pc := 0) (x := 40) dX8_field_0 rfl 0 rfl ?_
  refine z_getI (pc := 1) (pl := 39) (f := 28) (ci := 7) (C := RX8) (T := TX8) (N := 33) hu_X8 (by decide) rfl rfl (by decide) rfl (List.mem_cons_of_mem _ (iw35 _ (List.mem_of_getElem? (i := 21) rfl))) rfl (by decide) dX8_field_1 (fun v1 ev1 rv1 => ?_)
  refine z_if_eq (pc := 4) (tgt := 79) dX8_field_4 (by decide) ⟨by omega, by omega⟩ (fun c2 => ?_) (fun c2 => ?_)
  · refine z_aload_n (pc := 79) (x := 40) dX8_field_79 rfl 0 rfl ?_
    refine z_ldc2 (pc := 80) (v := 492210354) (x := 492210354) (List.mem_cons_of_mem _ (iw37 _ (List.mem_of_getElem? (i := 14) rfl))) (by decide +kernel) dX8_field_80 ?_
    refine z_callV (pc := 83) (kc := kX8_is) (n := 1) (pl := 39) (ci := 7) (C := RX8) (As := [AL 492210354]) (stk := []) ct_X8_is (gdV rfl rfl (iw29 _ (List.mem_of_getElem? (i := 13) rfl)) (iw29 _ (List.mem_of_getElem? (i := 14) rfl)) (iw29 _ (List.mem_of_getElem? (i := 15) rfl)) (iw1 _ (List.mem_of_getElem? (i := 5) rfl)) (iw29 _ (List.mem_of_getElem? (i := 16) rfl))) rfl ⟨rfl, rfl⟩ (by decide +kernel) ⟨by decide, by decide⟩ (by decide) rfl rfl dX8_field_83 rfl rfl (Nat.le_of_ble_eq_true rfl) ?_
    refine ⟨_, rfl, by omega, fun v3 ev3 => ?_⟩
    have wv3 := isw ev3 (t0.wd 30 (by decide) (by decide))
    refine z_if_eq (pc := 86) (tgt := 93) dX8_field_86 (by decide) ⟨by omega, by omega⟩ (fun c4 => ?_) (fun c4 => ?_)
    · refine z_aload_n (pc := 93) (x := 40) dX8_field_93 rfl 0 rfl ?_
      refine z_ldc2 (pc := 94) (v := 2411144) (x := 2411144) (List.mem_cons_of_mem _ (iw37 _ (List.mem_of_getElem? (i := 15) rfl))) (by decide +kernel) dX8_field_94 ?_
      refine z_callV (pc := 97) (kc := kX8_is) (n := 1) (pl := 39) (ci := 7) (C := RX8) (As := [AL 2411144]) (stk := []) ct_X8_is (gdV rfl rfl (iw29 _ (List.mem_of_getElem? (i := 13) rfl)) (iw29 _ (List.mem_of_getElem? (i := 14) rfl)) (iw29 _ (List.mem_of_getElem? (i := 15) rfl)) (iw1 _ (List.mem_of_getElem? (i := 5) rfl)) (iw29 _ (List.mem_of_getElem? (i := 16) rfl))) rfl ⟨rfl, rfl⟩ (by decide +kernel) ⟨by decide, by decide⟩ (by decide) rfl rfl dX8_field_97 rfl rfl (Nat.le_of_ble_eq_true rfl) ?_
      refine ⟨_, rfl, by omega, fun v5 ev5 => ?_⟩
      have wv5 := isw ev5 (t0.wd 31 (by decide) (by decide))
      refine z_if_eq (pc := 100) (tgt := 107) dX8_field_100 (by decide) ⟨by omega, by omega⟩ (fun c6 => ?_) (fun c6 => ?_)
      · refine z_aload_n (pc := 107) (x := 40) dX8_field_107 rfl 0 rfl ?_
        refine z_ldc2 (pc := 108) (v := 4359816) (x := 4359816) (List.mem_cons_of_mem _ (iw37 _ (List.mem_of_getElem? (i := 16) rfl))) (by decide +kernel) dX8_field_108 ?_
        refine z_callV (pc := 111) (kc := kX8_is) (n := 1) (pl := 39) (ci := 7) (C := RX8) (As := [AL 4359816]) (stk := []) ct_X8_is (gdV rfl rfl (iw29 _ (List.mem_of_getElem? (i := 13) rfl)) (iw29 _ (List.mem_of_getElem? (i := 14) rfl)) (iw29 _ (List.mem_of_getElem? (i := 15) rfl)) (iw1 _ (List.mem_of_getElem? (i := 5) rfl)) (iw29 _ (List.mem_of_getElem? (i := 16) rfl))) rfl ⟨rfl, rfl⟩ (by decide +kernel) ⟨by decide, by decide⟩ (by decide) rfl rfl dX8_field_111 rfl rfl (Nat.le_of_ble_eq_true rfl) ?_
        refine ⟨_, rfl, by omega, fun v7 ev7 => ?_⟩
        have wv7 := isw ev7 (t0.wd 32 (by decide) (by decide))
        refine z_if_eq (pc := 114) (tgt := 121) dX8_field_114 (by decide) ⟨by omega, by omega⟩ (fun c8 => ?_) (fun c8 => ?_)
        · refine z_aload_n (pc := 121) (x := 40) dX8_field_121 rfl 0 rfl ?_
          refine z_ldc2 (pc := 122) (v := 409031) (x := 409031) (List.mem_cons_of_mem _ (iw37 _ (List.mem_of_getElem? (i := 17) rfl))) (by decide +kernel) dX8_field_122 ?_
          refine z_callV (pc := 125) (kc := kX8_is) (n := 1) (pl := 39) (ci := 7) (C := RX8) (As := [AL 409031]) (stk := []) ct_X8_is (gdV rfl rfl (iw29 _ (List.mem_of_getElem? (i := 13) rfl)) (iw29 _ (List.mem_of_getElem? (i := 14) rfl)) (iw29 _ (List.mem_of_getElem? (i := 15) rfl)) (iw1 _ (List.mem_of_getElem? (i := 5) rfl)) (iw29 _ (List.mem_of_getElem? (i := 16) rfl))) rfl ⟨rfl, rfl⟩ (by decide +kernel) ⟨by decide, by decide⟩ (by decide) rfl rfl dX8_field_125 rfl rfl (Nat.le_of_ble_eq_true rfl) ?_
          refine ⟨_, rfl, by omega, fun v9 ev9 => ?_⟩
          have wv9 := isw ev9 (t0.wd 33 (by decide) (by decide))
          refine z_if_eq (pc := 128) (tgt := 135) dX8_field_128 (by decide) ⟨by omega, by omega⟩ (fun c10 => ?_) (fun c10 => ?_)
          · refine z_aload_n (pc := 135) (x := 40) dX8_field_135 rfl 0 rfl ?_
            refine z_ldc2 (pc := 136) (v := 24627848) (x := 24627848) (List.mem_cons_of_mem _ (iw28 _ (List.mem_of_getElem? (i := 20) rfl))) (by decide +kernel) dX8_field_136 ?_
            refine z_callV (pc := 139) (kc := kX8_is) (n := 1) (pl := 39) (ci := 7) (C := RX8) (As := [AL 24627848]) (stk := []) ct_X8_is (gdV rfl rfl (iw29 _ (List.mem_of_getElem? (i := 13) rfl)) (iw29 _ (List.mem_of_getElem? (i := 14) rfl)) (iw29 _ (List.mem_of_getElem? (i := 15) rfl)) (iw1 _ (List.mem_of_getElem? (i := 5) rfl)) (iw29 _ (List.mem_of_getElem? (i := 16) rfl))) rfl ⟨rfl, rfl⟩ (by decide +kernel) ⟨by decide, by decide⟩ (by decide) rfl rfl dX8_field_139 rfl rfl (Nat.le_of_ble_eq_true rfl) ?_
            refine ⟨_, rfl, by omega, fun v11 ev11 => ?_⟩
            have wv11 := isw ev11 (t0.wd 34 (by decide) (by decide))
            refine z_if_eq (pc := 142) (tgt := 149) dX8_field_142 (by decide) ⟨by omega, by omega⟩ (fun c12 => ?_) (fun c12 => ?_)
            · refine z_aload_n (pc := 149) (x := 40) dX8_field_149 rfl 0 rfl ?_
              refine z_ldc2 (pc := 150) (v := 546475187) (x := 546475187) (List.mem_cons_of_mem _ (iw37 _ (List.mem_of_getElem? (i := 18) rfl))) (by decide +kernel) dX8_field_150 ?_
              refine z_callV (pc := 153) (kc := kX8_is) (n := 1) (pl := 39) (ci := 7) (C := RX8) (As := [AL 546475187]) (stk := []) ct_X8_is (gdV rfl rfl (iw29 _ (List.mem_of_getElem? (i := 13) rfl)) (iw29 _ (List.mem_of_getElem? (i := 14) rfl)) (iw29 _ (List.mem_of_getElem? (i := 15) rfl)) (iw1 _ (List.mem_of_getElem? (i := 5) rfl)) (iw29 _ (List.mem_of_getElem? (i := 16) rfl))) rfl ⟨rfl, rfl⟩ (by decide +kernel) ⟨by decide, by decide⟩ (by decide) rfl rfl dX8_field_153 rfl rfl (Nat.le_of_ble_eq_true rfl) ?_
              refine ⟨_, rfl, by omega, fun v13 ev13 => ?_⟩
              have wv13 := isw ev13 (t0.wd 35 (by decide) (by decide))
              refine z_if_eq (pc := 156) (tgt := 163) dX8_field_156 (by decide) ⟨by omega, by omega⟩ (fun c14 => ?_) (fun c14 => ?_)
              · refine z_iconst (pc := 163) (v := (-1)) dX8_field_163 rfl ?_
                refine z_iret (pc := 164) rfl dX8_field_164 ?_
                exact hQ (-1) (by first | (have q := FI1_sp sg; rw [show hi 39 28 = 1 by omega]; omega) | (have q := FI0_sp sg; rw [show hi 39 28 = 0 by omega]; omega))
              · refine z_iconst (pc := 159) (v := 5) dX8_field_159 rfl ?_
                refine z_goto (pc := 160) (tgt := 164) dX8_field_160 (by decide) ?_
                refine z_iret (pc := 164) rfl dX8_field_164 ?_
                exact hQ 5 (by first | (have q := FI1_sp sg; rw [show hi 39 28 = 1 by omega]; omega) | (have q := FI0_sp sg; rw [show hi 39 28 = 0 by omega]; omega))
            · refine z_iconst (pc := 145) (v := 4) dX8_field_145 rfl ?_
              refine z_goto (pc := 146) (tgt := 164) dX8_field_146 (by decide) ?_
              refine z_iret (pc := 164) rfl dX8_field_164 ?_
              exact hQ 4 (by first | (have q := FI1_sp sg; rw [show hi 39 28 = 1 by omega]; omega) | (have q := FI0_sp sg; rw [show hi 39 28 = 0 by omega]; omega))
          · refine z_iconst (pc := 131) (v := 3) dX8_field_131 rfl ?_
            refine z_goto (pc := 132) (tgt := 164) dX8_field_132 (by decide) ?_
            refine z_iret (pc := 164) rfl dX8_field_164 ?_
            exact hQ 3 (by first | (have q := FI1_sp sg; rw [show hi 39 28 = 1 by omega]; omega) | (have q := FI0_sp sg; rw [show hi 39 28 = 0 by omega]; omega))
        · refine z_iconst (pc := 117) (v := 2) dX8_field_117 rfl ?_
          refine z_goto (pc := 118) (tgt := 164) dX8_field_118 (by decide) ?_
          refine z_iret (pc := 164) rfl dX8_field_164 ?_
          exact hQ 2 (by first | (have q := FI1_sp sg; rw [show hi 39 28 = 1 by omega]; omega) | (have q := FI0_sp sg; rw [show hi 39 28 = 0 by omega]; omega))
      · refine z_iconst (pc := 103) (v := 1) dX8_field_103 rfl ?_
        refine z_goto (pc := 104) (tgt := 164) dX8_field_104 (by decide) ?_
        refine z_iret (pc := 164) rfl dX8_field_164 ?_
        exact hQ 1 (by first | (have q := FI1_sp sg; rw [show hi 39 28 = 1 by omega]; omega) | (have q := FI0_sp sg; rw [show hi 39 28 = 0 by omega]; omega))
    · refine z_iconst (pc := 89) (v := 0) dX8_field_89 rfl ?_
      refine z_goto (pc := 90) (tgt := 164) dX8_field_90 (by decide) ?_
      refine z_iret (pc := 164) rfl dX8_field_164 ?_
      exact hQ 0 (by first | (have q := FI1_sp sg; rw [show hi 39 28 = 1 by omega]; omega) | (have q := FI0_sp sg; rw [show hi 39 28 = 0 by omega]; omega))
  · refine z_aload_n (pc := 7) (x := 40) dX8_field_7 rfl 0 rfl ?_
    refine z_ldc2 (pc := 8) (v := 278194) (x := 278194) (List.mem_cons_of_mem _ (iw37 _ (List.mem_of_getElem? (i := 9) rfl))) (by decide +kernel) dX8_field_8 ?_
    refine z_callV (pc := 11) (kc := kX8_is) (n := 1) (pl := 39) (ci := 7) (C := RX8) (As := [AL 278194]) (stk := []) ct_X8_is (gdV rfl rfl (iw29 _ (List.mem_of_getElem? (i := 13) rfl)) (iw29 _ (List.mem_of_getElem? (i := 14) rfl)) (iw29 _ (List.mem_of_getElem? (i := 15) rfl)) (iw1 _ (List.mem_of_getElem? (i := 5) rfl)) (iw29 _ (List.mem_of_getElem? (i := 16) rfl))) rfl ⟨rfl, rfl⟩ (by decide +kernel) ⟨by decide, by decide⟩ (by decide) rfl rfl dX8_field_11 rfl rfl (Nat.le_of_ble_eq_true rfl) ?_
    refine ⟨_, rfl, by omega, fun v15 ev15 => ?_⟩
    have wv15 := isw ev15 (t0.wd 36 (by decide) (by decide))
    refine z_if_eq (pc := 14) (tgt := 21) dX8_field_14 (by decide) ⟨by omega, by omega⟩ (fun c16 => ?_) (fun c16 => ?_)
    · refine z_aload_n (pc := 21) (x := 40) dX8_field_21 rfl 0 rfl ?_
      refine z_ldc2 (pc := 22) (v := 3659220) (x := 3659220) (List.mem_cons_of_mem _ (iw37 _ (List.mem_of_getElem? (i := 10) rfl))) (by decide +kernel) dX8_field_22 ?_
      refine z_callV (pc := 25) (kc := kX8_is) (n := 1) (pl := 39) (ci := 7) (C := RX8) (As := [AL 3659220]) (stk := []) ct_X8_is (gdV rfl rfl (iw29 _ (List.mem_of_getElem? (i := 13) rfl)) (iw29 _ (List.mem_of_getElem? (i := 14) rfl)) (iw29 _ (List.mem_of_getElem? (i := 15) rfl)) (iw1 _ (List.mem_of_getElem? (i := 5) rfl)) (iw29 _ (List.mem_of_getElem? (i := 16) rfl))) rfl ⟨rfl, rfl⟩ (by decide +kernel) ⟨by decide, by decide⟩ (by decide) rfl rfl dX8_field_25 rfl rfl (Nat.le_of_ble_eq_true rfl) ?_
      refine ⟨_, rfl, by omega, fun v17 ev17 => ?_⟩
      have wv17 := isw ev17 (t0.wd 37 (by decide) (by decide))
      refine z_if_eq (pc := 28) (tgt := 35) dX8_field_28 (by decide) ⟨by omega, by omega⟩ (fun c18 => ?_) (fun c18 => ?_)
      · refine z_aload_n (pc := 35) (x := 40) dX8_field_35 rfl 0 rfl ?_
        refine z_ldc2 (pc := 36) (v := 20141) (x := 20141) (List.mem_cons_of_mem _ (iw37 _ (List.mem_of_getElem? (i := 11) rfl))) (by decide +kernel) dX8_field_36 ?_
        refine z_callV (pc := 39) (kc := kX8_is) (n := 1) (pl := 39) (ci := 7) (C := RX8) (As := [AL 20141]) (stk := []) ct_X8_is (gdV rfl rfl (iw29 _ (List.mem_of_getElem? (i := 13) rfl)) (iw29 _ (List.mem_of_getElem? (i := 14) rfl)) (iw29 _ (List.mem_of_getElem? (i := 15) rfl)) (iw1 _ (List.mem_of_getElem? (i := 5) rfl)) (iw29 _ (List.mem_of_getElem? (i := 16) rfl))) rfl ⟨rfl, rfl⟩ (by decide +kernel) ⟨by decide, by decide⟩ (by decide) rfl rfl dX8_field_39 rfl rfl (Nat.le_of_ble_eq_true rfl) ?_
        refine ⟨_, rfl, by omega, fun v19 ev19 => ?_⟩
        have wv19 := isw ev19 (t0.wd 38 (by decide) (by decide))
        refine z_if_eq (pc := 42) (tgt := 49) dX8_field_42 (by decide) ⟨by omega, by omega⟩ (fun c20 => ?_) (fun c20 => ?_)
        · refine z_aload_n (pc := 49) (x := 40) dX8_field_49 rfl 0 rfl ?_
          refine z_ldc2 (pc := 50) (v := 12748404) (x := 12748404) (List.mem_cons_of_mem _ (iw37 _ (List.mem_of_getElem? (i := 12) rfl))) (by decide +kernel) dX8_field_50 ?_
          refine z_callV (pc := 53) (kc := kX8_is) (n := 1) (pl := 39) (ci := 7) (C := RX8) (As := [AL 12748404]) (stk := []) ct_X8_is (gdV rfl rfl (iw29 _ (List.mem_of_getElem? (i := 13) rfl)) (iw29 _ (List.mem_of_getElem? (i := 14) rfl)) (iw29 _ (List.mem_of_getElem? (i := 15) rfl)) (iw1 _ (List.mem_of_getElem? (i := 5) rfl)) (iw29 _ (List.mem_of_getElem? (i := 16) rfl))) rfl ⟨rfl, rfl⟩ (by decide +kernel) ⟨by decide, by decide⟩ (by decide) rfl rfl dX8_field_53 rfl rfl (Nat.le_of_ble_eq_true rfl) ?_
          refine ⟨_, rfl, by omega, fun v21 ev21 => ?_⟩
          have wv21 := isw ev21 (t0.wd 39 (by decide) (by decide))
          refine z_if_eq (pc := 56) (tgt := 63) dX8_field_56 (by decide) ⟨by omega, by omega⟩ (fun c22 => ?_) (fun c22 => ?_)
          · refine z_aload_n (pc := 63) (x := 40) dX8_field_63 rfl 0 rfl ?_
            refine z_ldc2 (pc := 64) (v := 441972) (x := 441972) (List.mem_cons_of_mem _ (iw37 _ (List.mem_of_getElem? (i := 13) rfl))) (by decide +kernel) dX8_field_64 ?_
            refine z_callV (pc := 67) (kc := kX8_is) (n := 1) (pl := 39) (ci := 7) (C := RX8) (As := [AL 441972]) (stk := []) ct_X8_is (gdV rfl rfl (iw29 _ (List.mem_of_getElem? (i := 13) rfl)) (iw29 _ (List.mem_of_getElem? (i := 14) rfl)) (iw29 _ (List.mem_of_getElem? (i := 15) rfl)) (iw1 _ (List.mem_of_getElem? (i := 5) rfl)) (iw29 _ (List.mem_of_getElem? (i := 16) rfl))) rfl ⟨rfl, rfl⟩ (by decide +kernel) ⟨by decide, by decide⟩ (by decide) rfl rfl dX8_field_67 rfl rfl (Nat.le_of_ble_eq_true rfl) ?_
            refine ⟨_, rfl, by omega, fun v23 ev23 => ?_⟩
            have wv23 := isw ev23 (t0.wd 40 (by decide) (by decide))
            refine z_if_eq (pc := 70) (tgt := 77) dX8_field_70 (by decide) ⟨by omega, by omega⟩ (fun c24 => ?_) (fun c24 => ?_)
            · refine z_iconst (pc := 77) (v := (-1)) dX8_field_77 rfl ?_
              refine z_iret (pc := 78) rfl dX8_field_78 ?_
              exact hQ (-1) (by first | (have q := FI1_sp sg; rw [show hi 39 28 = 1 by omega]; omega) | (have q := FI0_sp sg; rw [show hi 39 28 = 0 by omega]; omega))
            · refine z_iconst (pc := 73) (v := 4) dX8_field_73 rfl ?_
              refine z_goto (pc := 74) (tgt := 78) dX8_field_74 (by decide) ?_
              refine z_iret (pc := 78) rfl dX8_field_78 ?_
              exact hQ 4 (by first | (have q := FI1_sp sg; rw [show hi 39 28 = 1 by omega]; omega) | (have q := FI0_sp sg; rw [show hi 39 28 = 0 by omega]; omega))
          · refine z_iconst (pc := 59) (v := 3) dX8_field_59 rfl ?_
            refine z_goto (pc := 60) (tgt := 78) dX8_field_60 (by decide) ?_
            refine z_iret (pc := 78) rfl dX8_field_78 ?_
            exact hQ 3 (by first | (have q := FI1_sp sg; rw [show hi 39 28 = 1 by omega]; omega) | (have q := FI0_sp sg; rw [show hi 39 28 = 0 by omega]; omega))
        · refine z_iconst (pc := 45) (v := 2) dX8_field_45 rfl ?_
          refine z_goto (pc := 46) (tgt := 78) dX8_field_46 (by decide) ?_
          refine z_iret (pc := 78) rfl dX8_field_78 ?_
          exact hQ 2 (by first | (have q := FI1_sp sg; rw [show hi 39 28 = 1 by omega]; omega) | (have q := FI0_sp sg; rw [show hi 39 28 = 0 by omega]; omega))
      · refine z_iconst (pc := 31) (v := 1) dX8_field_31 rfl ?_
        refine z_goto (pc := 32) (tgt := 78) dX8_field_32 (by decide) ?_
        refine z_iret (pc := 78) rfl dX8_field_78 ?_
        exact hQ 1 (by first | (have q := FI1_sp sg; rw [show hi 39 28 = 1 by omega]; omega) | (have q := FI0_sp sg; rw [show hi 39 28 = 0 by omega]; omega))
    · refine z_iconst (pc := 17) (v := 0) dX8_field_17 rfl ?_
      refine z_goto (pc := 18) (tgt := 78) dX8_field_18 (by decide) ?_
      refine z_iret (pc := 78) rfl dX8_field_78 ?_
      exact hQ 0 (by first | (have q := FI1_sp sg; rw [show hi 39 28 = 1 by omega]; omega) | (have q := FI0_sp sg; rw [show hi 39 28 = 0 by omega]; omega))

abbrev kX8_valueHere : Kd := (cX8_valueHere, .code yX8_valueHere cX8_valueHere 2 (some .boolean) :: wsL_law0, rmL 3, RX8, (some .boolean), 2)
theorem ct_X8_valueHere : Ct kX8_valueHere yX8_valueHere (fun a hi Q => ∃ S : Nat → Int, ∃ P : Nat → Int, ∃ V : Nat → Int, ∃ st : Nat → Int, ∃ m : Nat, ∃ c : Nat, ∃ G : List Ex, a = [AR 40] ∧ (TM hi S P V st m c ∧ hi 39 15 = -1 ∧ (hi 39 28 = 0 ∨ hi 39 28 = 1) ∧ CM hi G ∧ hi 39 24 < 700) ∧ ∀ (v : Int) (h2 : HI), (Fr [39, 49] hi h2 ∧ FF 39 [10, 11, 12, 13, 14, 15, 16, 24] hi h2 ∧ ((v = 1 ∧ ∃ g, valF (hi 39 28) S P V c = .inr g ∧ TM h2 S P V st m (c + 1) ∧ CM h2 (g :: G) ∧ h2 39 24 = hi 39 24 + 1 ∧ h2 39 15 = -1 ∧ QD (hi 39 28) g) ∨ (v = 0 ∧ valF (hi 39 28) S P V c = .inl (P c) ∧ FLK h2 1 (P c)))) → Q (AI v) h2) := by
  refine Ct.of (ws' := _) (by decide +kernel) rfl rfl ?_
  intro a hi Q hT
  obtain ⟨S, P, V, st, m, c, G, rfl, hpre, hQ⟩ := hT
  refine ⟨Nat.le_of_ble_eq_true rfl, ?_⟩
  show Z kX8_valueHere Q 0 [(0, AR 40)] [] hi
  have t0 := hpre.1
  obtain ⟨f15, ho, cg, b24⟩ := hpre.2
  have c24 := cg.1
  have sg := t0.1.sg_rg t0.2.1
  have vq : S c = 2 → 0 ≤ V c ∧ V c ≤ 999 := fun q => t0.v2 t0.2.1 q
  refine z_aload_n (pc := 0) (x := 40) dX8_valueHere_0 rfl 0 rfl ?_
  refine z_getI (pc := 1) (pl := 39) (f := 12) (ci := 7) (C := RX8) (T := TX8) (N := 33) hu_X8 (by decide) rfl rfl (by decide) rfl (List.mem_cons_of_mem _ (iw27 _ (List.mem_of_getElem? (i := 2) rfl))) rfl (by decide) dX8_valueHere_1 (fun v1 ev1 rv1 => ?_)
  have nv1 := t0.num
  refine z_iconst (pc := 4) (v := 2) dX8_valueHere_4 rfl ?_
  refine z_icmp_ne (pc := 5) (tgt := 23) dX8_valueHere_5 (by decide) ⟨by omega, by omega⟩ ⟨by decide, by decide⟩ (fun c2 => ?_) (fun c2 => ?_)
  · refine z_aload_n (pc := 23) (x := 40) dX8_valueHere_23 rfl 0 rfl ?_
    refine z_callV (pc := 24) (kc := kX8_field) (n := 0) (pl := 39) (ci := 7) (C := RX8) (As := []) (stk := []) ct_X8_field (gdV rfl rfl (iw37 _ (List.mem_of_getElem? (i := 5) rfl)) (iw37 _ (List.mem_of_getElem? (i := 6) rfl)) (iw37 _ (List.mem_of_getElem? (i := 7) rfl)) (iw1 _ (List.mem_of_getElem? (i := 5) rfl)) (iw37 _ (List.mem_of_getElem? (i := 8) rfl))) rfl ⟨rfl, rfl⟩ (by decide +kernel) ⟨by decide, by decide⟩ (by decide) rfl rfl dX8_valueHere_24 rfl rfl (Nat.le_of_ble_eq_true rfl) ?_
    refine ⟨S, P, V, st, m, c, rfl, ⟨t0, by rw [(rfl : hi 39 28 = hi 39 28)]; exact ho⟩, fun v3 ev3 => ?_⟩
    have fb := FI_bd ho sg.1 sg.2
    refine z_istore_n (pc := 27) (lv' := [(1, AI v3), (0, AR 40)]) dX8_valueHere_27 rfl (by decide) rfl ?_
    refine z_iload_n (pc := 28) dX8_valueHere_28 rfl 0 rfl ?_
    refine z_iconst (pc := 29) (v := (-1)) dX8_valueHere_29 rfl ?_
    refine z_icmp_ne (pc := 30) (tgt := 39) dX8_valueHere_30 (by decide) ⟨by omega, by omega⟩ ⟨by decide, by decide⟩ (fun c4 => ?_) (fun c4 => ?_)
    · refine z_aload_n (pc := 39) (x := 40) dX8_valueHere_39 rfl 1 rfl ?_
      refine z_iconst (pc := 40) (v := 1) dX8_valueHere_40 rfl ?_
      refine z_iload_n (pc := 41) dX8_valueHere_41 rfl 0 rfl ?_
      refine z_callV (pc := 42) (kc := kX8_code) (n := 2) (pl := 39) (ci := 7) (C := RX8) (As := [AI 1, AI v3]) (stk := []) ct_X8_code (gdV rfl rfl (iw37 _ (List.mem_of_getElem? (i := 1) rfl)) (iw37 _ (List.mem_of_getElem? (i := 2) rfl)) (iw37 _ (List.mem_of_getElem? (i := 3) rfl)) (iw1 _ (List.mem_of_getElem? (i := 5) rfl)) (iw37 _ (List.mem_of_getElem? (i := 4) rfl))) rfl ⟨rfl, rfl⟩ (by decide +kernel) ⟨by decide, by decide⟩ (by decide) rfl rfl dX8_valueHere_42 rfl rfl (Nat.le_of_ble_eq_true rfl) ?_
      refine ⟨_, _, rfl, by omega, fun h5 eh5 => ?_⟩
      have frh5 : Fr [39, 49] hi h5 := (Fr.call (Fr.rf) eh5.1 (by decide))
      have ff39h5 : FF 39 [10, 11, 12, 13, 14, 15, 16, 24] hi h5 := FF.call (FF.rf) (eh5.2.1) (by decide)
      have th5 : TM h5 S P V st m c := TM.fr t0 eh5.1 eh5.2.1 (by decide) (by decide)
      have cg2 := cg.code (h2 := h5) (x := 1000 + v3) (by rw [eh5.2.2.1, show 1000 * 1 + v3 = 1000 + v3 by omega]) eh5.2.2.2 (okX_f (by omega))
      rw [apC_f (by omega)] at cg2
      have w24 := eh5.2.2.2
      refine z_aload_n (pc := 45) (x := 40) dX8_valueHere_45 rfl 1 rfl ?_
      refine z_callV (pc := 46) (kc := kX8_go) (n := 0) (pl := 39) (ci := 7) (C := RX8) (As := []) (stk := []) ct_X8_go2 (gdV rfl rfl (iw27 _ (List.mem_of_getElem? (i := 11) rfl)) (iw27 _ (List.mem_of_getElem? (i := 12) rfl)) (iw27 _ (List.mem_of_getElem? (i := 13) rfl)) (iw1 _ (List.mem_of_getElem? (i := 5) rfl)) (iw27 _ (List.mem_of_getElem? (i := 14) rfl))) rfl ⟨rfl, rfl⟩ (by decide +kernel) ⟨by decide, by decide⟩ (by decide) rfl rfl dX8_valueHere_46 rfl rfl (Nat.le_of_ble_eq_true rfl) ?_
      refine ⟨S, P, V, st, m, c, rfl, ⟨th5, by omega, by omega⟩, fun h6 eh6 => ?_⟩
      have frh6 : Fr [39, 49] hi h6 := (Fr.call frh5 eh6.1 (by decide))
      have ff39h6 : FF 39 [10, 11, 12, 13, 14, 15, 16, 24] hi h6 := FF.call ff39h5 (eh6.2.1) (by decide)
      have th6 : TM h6 S P V st m (c + 1) := eh6.2.2
      refine z_iconst (pc := 49) (v := 1) dX8_valueHere_49 rfl ?_
      refine z_zret (pc := 50) rfl (by decide) dX8_valueHere_50 ?_
      exact hQ 1 h6 ⟨frh6, ff39h6, by first | exact Or.inl ⟨rfl, fun _ => V c, by unfold valF; rw [if_pos (by omega)], th6, by have q := (cg2.kp (by rw [(eh6.1 49 (by decide) : h6 49 = h5 49)] : h6 49 = h5 49) (by rw [(by rw [(eh6.2.1 24 (by decide) : h6 39 24 = h5 39 24)] : h6 39 24 = h5 39 24)])); rw [show 0 = V c by omega] at q; exact q, by rw [(by rw [(eh6.2.1 24 (by decide) : h6 39 24 = h5 39 24)] : h6 39 24 = h5 39 24)]; omega, by first | assumption | (rw [(by rw [(eh6.2.1 15 (by decide) : h6 39 15 = h5 39 15), (eh5.2.1 15 (by decide) : h5 39 15 = hi 39 15)] : h6 39 15 = hi 39 15)]; assumption), fun _ _ _ => rfl⟩ | exact Or.inr ⟨by omega, by unfold valF; rw [if_neg (by omega), if_neg (by omega)], xh6⟩ | exact Or.inl ⟨rfl, _, valF_f (by omega) (by omega) (by omega), th6, (cg2.kp (by rw [(eh6.1 49 (by decide) : h6 49 = h5 49)] : h6 49 = h5 49) (by rw [(by rw [(eh6.2.1 24 (by decide) : h6 39 24 = h5 39 24)] : h6 39 24 = h5 39 24)])), by rw [(by rw [(eh6.2.1 24 (by decide) : h6 39 24 = h5 39 24)] : h6 39 24 = h5 39 24)]; omega, by first | assumption | (rw [(by rw [(eh6.2.1 15 (by decide) : h6 39 15 = h5 39 15), (eh5.2.1 15 (by decide) : h5 39 15 = hi 39 15)] : h6 39 15 = hi 39 15)]; assumption), valF_qd (P := P) (V := V) ho sg (valF_f (by omega) (by omega) (by omega))⟩⟩
    · refine z_aload_n (pc := 33) (x := 40) dX8_valueHere_33 rfl 1 rfl ?_
      refine z_iconst (pc := 34) (v := 1) dX8_valueHere_34 rfl ?_
      refine z_callV (pc := 35) (kc := kX8_bad) (n := 1) (pl := 39) (ci := 7) (C := RX8) (As := [AI 1]) (stk := []) ct_X8_bad2 (gdV rfl rfl (iw29 _ (List.mem_of_getElem? (i := 8) rfl)) (iw29 _ (List.mem_of_getElem? (i := 9) rfl)) (iw29 _ (List.mem_of_getElem? (i := 10) rfl)) (iw1 _ (List.mem_of_getElem? (i := 5) rfl)) (iw29 _ (List.mem_of_getElem? (i := 11) rfl))) rfl ⟨rfl, rfl⟩ (by decide +kernel) ⟨by decide, by decide⟩ (by decide) rfl rfl dX8_valueHere_35 rfl rfl (Nat.le_of_ble_eq_true rfl) ?_
      refine ⟨_, rfl, by omega, fun v7 h8 eh8 => ?_⟩
      have frh8 : Fr [39, 49] hi h8 := (Fr.call (Fr.rf) eh8.1 (by decide))
      have ff39h8 : FF 39 [10, 11, 12, 13, 14, 15, 16, 24] hi h8 := FF.call (FF.rf) (eh8.2.1) (by decide)
      have th8 : TM h8 S P V st m c := TM.fr t0 eh8.1 eh8.2.1 (by decide) (by decide)
      have xh8 := bad_flk t0 (by first | assumption | (rw [(rfl : hi 39 15 = hi 39 15)]; assumption)) eh8.2.2.2
      refine z_zret (pc := 38) rfl (by omega) dX8_valueHere_38 ?_
      exact hQ v7 h8 ⟨frh8, ff39h8, by first | exact Or.inl ⟨rfl, fun _ => V c, by unfold valF; rw [if_pos (by omega)], th8, by have q := (cg2.kp (by rw [(eh8.1 49 (by decide) : h8 49 = hi 49)] : h8 49 = hi 49) (by rw [(by rw [(eh8.2.1 24 (by decide) : h8 39 24 = hi 39 24)] : h8 39 24 = hi 39 24)])); rw [show 0 = V c by omega] at q; exact q, by rw [(by rw [(eh8.2.1 24 (by decide) : h8 39 24 = hi 39 24)] : h8 39 24 = hi 39 24)]; omega, by first | assumption | (rw [(rfl : h8 39 15 = h8 39 15)]; assumption), fun _ _ _ => rfl⟩ | exact Or.inr ⟨by omega, by unfold valF; rw [if_neg (by omega), if_neg (by omega)], xh8⟩ | exact Or.inl ⟨rfl, _, valF_f (by omega) (by omega) (by omega), th8, (cg2.kp (by rw [(eh8.1 49 (by decide) : h8 49 = hi 49)] : h8 49 = hi 49) (by rw [(by rw [(eh8.2.1 24 (by decide) : h8 39 24 = hi 39 24)] : h8 39 24 = hi 39 24)])), by rw [(by rw [(eh8.2.1 24 (by decide) : h8 39 24 = hi 39 24)] : h8 39 24 = hi 39 24)]; omega, by first | assumption | (rw [(rfl : h8 39 15 = h8 39 15)]; assumption), valF_qd (P := P) (V := V) ho sg (valF_f (by omega) (by omega) (by omega))⟩⟩
  · refine z_aload_n (pc := 8) (x := 40) dX8_valueHere_8 rfl 0 rfl ?_
    refine z_iconst (pc := 9) (v := 0) dX8_valueHere_9 rfl ?_
    refine z_aload_n (pc := 10) (x := 40) dX8_valueHere_10 rfl 0 rfl ?_
    refine z_getI (pc := 11) (pl := 39) (f := 13) (ci := 7) (C := RX8) (T := TX8) (N := 33) hu_X8 (by decide) rfl rfl (by decide) rfl (List.mem_cons_of_mem _ (iw27 _ (List.mem_of_getElem? (i := 16) rfl))) rfl (by decide) dX8_valueHere_11 (fun v9 ev9 rv9 => ?_)
    have nv9 := t0.num
    refine z_callV (pc := 14) (kc := kX8_code) (n := 2) (pl := 39) (ci := 7) (C := RX8) (As := [AI 0, AI v9]) (stk := []) ct_X8_code (gdV rfl rfl (iw37 _ (List.mem_of_getElem? (i := 1) rfl)) (iw37 _ (List.mem_of_getElem? (i := 2) rfl)) (iw37 _ (List.mem_of_getElem? (i := 3) rfl)) (iw1 _ (List.mem_of_getElem? (i := 5) rfl)) (iw37 _ (List.mem_of_getElem? (i := 4) rfl))) rfl ⟨rfl, rfl⟩ (by decide +kernel) ⟨by decide, by decide⟩ (by decide) rfl rfl dX8_valueHere_14 rfl rfl (Nat.le_of_ble_eq_true rfl) ?_
    refine ⟨_, _, rfl, by omega, fun h10 eh10 => ?_⟩
    have frh10 : Fr [39, 49] hi h10 := (Fr.call (Fr.rf) eh10.1 (by decide))
    have ff39h10 : FF 39 [10, 11, 12, 13, 14, 15, 16, 24] hi h10 := FF.call (FF.rf) (eh10.2.1) (by decide)
    have th10 : TM h10 S P V st m c := TM.fr t0 eh10.1 eh10.2.1 (by decide) (by decide)
    have cg2 := cg.code (h2 := h10) (x := v9) (by rw [eh10.2.2.1, show 1000 * 0 + v9 = v9 by omega]) (by rw [eh10.2.2.2]) (okX_n (by omega))
    rw [apC_n (by omega)] at cg2
    have w24 := eh10.2.2.2
    refine z_aload_n (pc := 17) (x := 40) dX8_valueHere_17 rfl 0 rfl ?_
    refine z_callV (pc := 18) (kc := kX8_go) (n := 0) (pl := 39) (ci := 7) (C := RX8) (As := []) (stk := []) ct_X8_go2 (gdV rfl rfl (iw27 _ (List.mem_of_getElem? (i := 11) rfl)) (iw27 _ (List.mem_of_getElem? (i := 12) rfl)) (iw27 _ (List.mem_of_getElem? (i := 13) rfl)) (iw1 _ (List.mem_of_getElem? (i := 5) rfl)) (iw27 _ (List.mem_of_getElem? (i := 14) rfl))) rfl ⟨rfl, rfl⟩ (by decide +kernel) ⟨by decide, by decide⟩ (by decide) rfl rfl dX8_valueHere_18 rfl rfl (Nat.le_of_ble_eq_true rfl) ?_
    refine ⟨S, P, V, st, m, c, rfl, ⟨th10, by omega, by omega⟩, fun h11 eh11 => ?_⟩
    have frh11 : Fr [39, 49] hi h11 := (Fr.call frh10 eh11.1 (by decide))
    have ff39h11 : FF 39 [10, 11, 12, 13, 14, 15, 16, 24] hi h11 := FF.call ff39h10 (eh11.2.1) (by decide)
    have th11 : TM h11 S P V st m (c + 1) := eh11.2.2
    refine z_iconst (pc := 21) (v := 1) dX8_valueHere_21 rfl ?_
    refine z_zret (pc := 22) rfl (by decide) dX8_valueHere_22 ?_
    exact hQ 1 h11 ⟨frh11, ff39h11, by first | exact Or.inl ⟨rfl, fun _ => V c, by unfold valF; rw [if_pos (by omega)], th11, by have q := (cg2.kp (by rw [(eh11.1 49 (by decide) : h11 49 = h10 49)] : h11 49 = h10 49) (by rw [(by rw [(eh11.2.1 24 (by decide) : h11 39 24 = h10 39 24)] : h11 39 24 = h10 39 24)])); rw [show v9 = V c by omega] at q; exact q, by rw [(by rw [(eh11.2.1 24 (by decide) : h11 39 24 = h10 39 24)] : h11 39 24 = h10 39 24)]; omega, by first | assumption | (rw [(by rw [(eh11.2.1 15 (by decide) : h11 39 15 = h10 39 15), (eh10.2.1 15 (by decide) : h10 39 15 = hi 39 15)] : h11 39 15 = hi 39 15)]; assumption), fun _ _ _ => rfl⟩ | exact Or.inr ⟨by omega, by unfold valF; rw [if_neg (by omega), if_neg (by omega)], xh11⟩ | exact Or.inl ⟨rfl, _, valF_f (by omega) (by omega) (by omega), th11, (cg2.kp (by rw [(eh11.1 49 (by decide) : h11 49 = h10 49)] : h11 49 = h10 49) (by rw [(by rw [(eh11.2.1 24 (by decide) : h11 39 24 = h10 39 24)] : h11 39 24 = h10 39 24)])), by rw [(by rw [(eh11.2.1 24 (by decide) : h11 39 24 = h10 39 24)] : h11 39 24 = h10 39 24)]; omega, by first | assumption | (rw [(by rw [(eh11.2.1 15 (by decide) : h11 39 15 = h10 39 15), (eh10.2.1 15 (by decide) : h10 39 15 = hi 39 15)] : h11 39 15 = hi 39 15)]; assumption), valF_qd (P := P) (V := V) ho sg (valF_f (by omega) (by omega) (by omega))⟩⟩

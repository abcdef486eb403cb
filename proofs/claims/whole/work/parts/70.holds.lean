/-! what a question's codes come to -/
def absS : List Int → Int
  | [] => 0
  | x :: l => (if 0 ≤ x then x else -x) + absS l
theorem absS_0 : ∀ l, 0 ≤ absS l
  | [] => Int.le_refl 0
  | x :: l => by
    show 0 ≤ (if 0 ≤ x then x else -x) + absS l
    have := absS_0 l
    split <;> omega
theorem absS_le {x : Int} : ∀ {l : List Int}, x ∈ l → -(absS l) ≤ x ∧ x ≤ absS l
  | y :: l, h => by
    show -((if 0 ≤ y then y else -y) + absS l) ≤ x ∧ x ≤ (if 0 ≤ y then y else -y) + absS l
    have p := absS_0 l
    rcases List.mem_cons.mp h with q | q
    · subst q; split <;> omega
    · have := absS_le q
      split <;> omega
theorem absS_c {x : Int} {l : List Int} : absS (x :: l) = (if 0 ≤ x then x else -x) + absS l := rfl
theorem jn_abs {o a b : Int} : (jn o a b = 0 ∨ jn o a b = 1) ∨ jn o a b = a + b ∨ jn o a b = a - b := by
  unfold jn
  split
  · exact Or.inr (Or.inl rfl)
  · split
    · exact Or.inr (Or.inr rfl)
    · left
      repeat' split
      all_goals first | exact Or.inl rfl | exact Or.inr rfl
theorem jn_or8 {o a b v : Int} (ho : o = 9 ∨ o = 10) (ha : a = 0 ∨ a = 1) (hb : b = 0 ∨ b = 1) (e : v = (iI a ||| iI b).toInt) : v = jn o a b := by
  rcases ho with q | q <;> subst q <;> rcases ha with q | q <;> subst q <;> rcases hb with q | q <;> subst q <;> rw [e] <;> decide +kernel
theorem jn_and8 {o a b v : Int} (ho : o = 8) (ha : a = 0 ∨ a = 1) (hb : b = 0 ∨ b = 1) (e : v = (iI a &&& iI b).toInt) : v = jn o a b := by
  subst ho; rcases ha with q | q <;> subst q <;> rcases hb with q | q <;> subst q <;> rw [e] <;> decide +kernel
theorem rdW_len {f : Nat → Int} : ∀ {n : Nat}, (rdW f n).length = n
  | 0 => rfl
  | n + 1 => by show (f n :: rdW f n).length = n + 1; rw [List.length_cons, rdW_len]
/-- the stack s holds t values: what the first k codes come to -/
def SV (s : Nat → Int) (t : Int) (f φ : Nat → Int) (k : Int) : Prop := (0 ≤ t ∧ t ≤ k) ∧ rdW s t.toNat = (evC f k.toNat).map (fun x => x φ) ∧ absS ((evC f k.toNat).map (fun x => x φ)) ≤ 4000 * k
theorem sv_0 {s f φ : Nat → Int} {t k : Int} (h1 : t = 0) (h2 : k = 0) : SV s t f φ k := by
  subst h1; subst h2; exact ⟨⟨by decide, by decide⟩, rfl, by show (0 : Int) ≤ 4000 * 0; decide⟩
theorem sv_code {f : Nat → Int} {k k2 : Int} (h0 : 0 ≤ k) (hk : k2 = k + 1) : evC f k2.toNat = apC (f k.toNat) (evC f k.toNat) := by
  rw [show k2.toNat = k.toNat + 1 by omega]; rfl
theorem rd_upd {s : Nat → Int} {t : Int} {x : Int} : rdW (updI s t.toNat x) t.toNat = rdW s t.toNat := rdW_same (fun k hk => updI_ne _ _ (by omega))
theorem sv_psh {s s2 f φ : Nat → Int} {t t2 k k2 v : Int} {e : Ex} (h : SV s t f φ k) (h0 : 0 ≤ k) (hk : k2 = k + 1) (ht : t2 = t + 1) (ha : apC (f k.toNat) (evC f k.toNat) = e :: evC f k.toNat) (hv : v = e φ) (hb : -4000 ≤ v ∧ v ≤ 4000) (hs : s2 = updI s t.toNat v) : SV s2 t2 f φ k2 := by
  obtain ⟨⟨a, b⟩, c, d⟩ := h
  refine ⟨⟨by omega, by omega⟩, ?_, ?_⟩
  · rw [sv_code h0 hk, ha, List.map_cons, show t2.toNat = t.toNat + 1 by omega, ← c, hs, ← hv]
    show updI s t.toNat v t.toNat :: rdW (updI s t.toNat v) t.toNat = _
    rw [updI_same, rd_upd]
  · rw [sv_code h0 hk, ha, List.map_cons, absS_c, ← hv]
    split <;> omega
theorem apC_not {x : Int} {g : Ex} {s : List Ex} (h : x / 1000 = 7) : apC x (g :: s) = nt g :: s := by
  unfold apC; rw [if_neg (by omega), if_neg (by omega), if_pos h]; rfl
theorem apC_bin {x : Int} {a b : Ex} {s : List Ex} (h : x / 1000 ≠ 0) (h1 : x / 1000 ≠ 1) (h7 : x / 1000 ≠ 7) : apC x (b :: a :: s) = bin (x / 1000) a b :: s := by
  unfold apC; rw [if_neg h, if_neg h1, if_neg h7]; rfl
theorem sv_top {s f φ : Nat → Int} {t k : Int} {g : Ex} {G : List Ex} (h : SV s t f φ k) (he : evC f k.toNat = g :: G) : 1 ≤ t ∧ s (t - 1).toNat = g φ ∧ rdW s (t - 1).toNat = G.map (fun x => x φ) := by
  obtain ⟨⟨a, b⟩, c, d⟩ := h
  rw [he, List.map_cons] at c
  have l := congrArg List.length c
  rw [rdW_len, List.length_cons] at l
  rw [show t.toNat = (t - 1).toNat + 1 by omega] at c
  have c2 : s (t - 1).toNat :: rdW s (t - 1).toNat = g φ :: G.map (fun x => x φ) := c
  exact ⟨by omega, (List.cons.inj c2).1, (List.cons.inj c2).2⟩
theorem ok_one {x : Int} {G : List Ex} (h : 1 ≤ G.length) : ∃ g H, G = g :: H := by
  cases G with
  | nil => exact absurd h (by decide)
  | cons g H => exact ⟨g, H, rfl⟩
theorem ok_two {G : List Ex} (h : 2 ≤ G.length) : ∃ b a H, G = b :: a :: H := by
  cases G with
  | nil => exact absurd h (by decide)
  | cons g H =>
    cases H with
    | nil => exact absurd h (by show ¬ (2 ≤ 1); decide)
    | cons a J => exact ⟨g, a, J, rfl⟩
theorem sv_not {s s2 f φ : Nat → Int} {t k k2 v : Int} {g : Ex} {G : List Ex} (h : SV s t f φ k) (he : evC f k.toNat = g :: G) (hx : f k.toNat / 1000 = 7) (h0 : 0 ≤ k) (hk : k2 = k + 1) (hv : v = 1 - g φ) (hs : s2 = updI s (t - 1).toNat v) : SV s2 t f φ k2 := by
  obtain ⟨t1, t2, t3⟩ := sv_top h he
  obtain ⟨⟨a, b⟩, c, d⟩ := h
  refine ⟨⟨by omega, by omega⟩, ?_, ?_⟩
  · rw [sv_code h0 hk, he, apC_not hx, List.map_cons, show t.toNat = (t - 1).toNat + 1 by omega, hs]
    show updI s (t - 1).toNat v (t - 1).toNat :: rdW (updI s (t - 1).toNat v) (t - 1).toNat = _
    rw [updI_same, rd_upd, t3, hv]; rfl
  · rw [sv_code h0 hk, he, apC_not hx, List.map_cons, absS_c]
    rw [he, List.map_cons, absS_c] at d
    show (if 0 ≤ 1 - g φ then 1 - g φ else -(1 - g φ)) + _ ≤ _
    split <;> split at d <;> omega
theorem sv_two {s f φ : Nat → Int} {t k : Int} {a b : Ex} {G : List Ex} (h : SV s t f φ k) (he : evC f k.toNat = b :: a :: G) : 2 ≤ t ∧ s (t - 1).toNat = b φ ∧ s (t - 2).toNat = a φ ∧ rdW s (t - 2).toNat = G.map (fun x => x φ) := by
  obtain ⟨t1, t2, t3⟩ := sv_top h he
  have l := congrArg List.length t3
  rw [rdW_len, List.map_cons, List.length_cons] at l
  rw [show (t - 1).toNat = (t - 2).toNat + 1 by omega, List.map_cons] at t3
  have c2 : s (t - 2).toNat :: rdW s (t - 2).toNat = a φ :: G.map (fun x => x φ) := t3
  exact ⟨by omega, t2, (List.cons.inj c2).1, (List.cons.inj c2).2⟩
theorem sv_bd2 {s f φ : Nat → Int} {t k : Int} {a b : Ex} {G : List Ex} (h : SV s t f φ k) (he : evC f k.toNat = b :: a :: G) (hk : k ≤ 700) : (-2800000 ≤ a φ ∧ a φ ≤ 2800000) ∧ (-2800000 ≤ b φ ∧ b φ ≤ 2800000) ∧ (-2800000 ≤ a φ + b φ ∧ a φ + b φ ≤ 2800000) ∧ (-2800000 ≤ a φ - b φ ∧ a φ - b φ ≤ 2800000) := by
  have d := h.2.2
  rw [he, List.map_cons, List.map_cons, absS_c, absS_c] at d
  have p := absS_0 (G.map (fun x => x φ))
  split at d <;> split at d <;> omega
theorem sv_bd1 {s f φ : Nat → Int} {t k : Int} {b : Ex} {G : List Ex} (h : SV s t f φ k) (he : evC f k.toNat = b :: G) (hk : k ≤ 700) : (-2800000 ≤ b φ ∧ b φ ≤ 2800000) := by
  have d := h.2.2
  rw [he, List.map_cons, absS_c] at d
  have p := absS_0 (G.map (fun x => x φ))
  split at d <;> omega
theorem sv_bin {s s2 f φ : Nat → Int} {t t2 k k2 v : Int} {a b : Ex} {G : List Ex} (h : SV s t f φ k) (he : evC f k.toNat = b :: a :: G) (hx : f k.toNat / 1000 ≠ 0) (h1 : f k.toNat / 1000 ≠ 1) (h7 : f k.toNat / 1000 ≠ 7) (h0 : 0 ≤ k) (hk : k2 = k + 1) (ht : t2 = t - 1) (hv : v = jn (f k.toNat / 1000) (a φ) (b φ)) (hs : s2 = updI s (t - 2).toNat v) : SV s2 t2 f φ k2 := by
  obtain ⟨t1, tb, ta, t3⟩ := sv_two h he
  obtain ⟨⟨q1, q2⟩, c, d⟩ := h
  refine ⟨⟨by omega, by omega⟩, ?_, ?_⟩
  · rw [sv_code h0 hk, he, apC_bin hx h1 h7, List.map_cons, show t2.toNat = (t - 2).toNat + 1 by omega, hs]
    show updI s (t - 2).toNat v (t - 2).toNat :: rdW (updI s (t - 2).toNat v) (t - 2).toNat = _
    rw [updI_same, rd_upd, t3, hv]; rfl
  · rw [sv_code h0 hk, he, apC_bin hx h1 h7, List.map_cons, absS_c]
    rw [he, List.map_cons, List.map_cons, absS_c, absS_c] at d
    have e : bin (f k.toNat / 1000) a b φ = jn (f k.toNat / 1000) (a φ) (b φ) := rfl
    rw [e]
    rcases jn_abs (o := f k.toNat / 1000) (a := a φ) (b := b φ) with (q | q) | q | q <;> rw [q] <;> split at d <;> split at d <;> split <;> omega
theorem sv_end {s f φ : Nat → Int} {t k : Int} {g : Ex} (h : SV s t f φ k) (he : evC f k.toNat = [g]) : s 0 = g φ := by
  obtain ⟨t1, t2, t3⟩ := sv_top h he
  have l := congrArg List.length t3
  rw [rdW_len] at l
  have : (t - 1).toNat = 0 := l
  rw [this] at t2; exact t2

theorem apC_k {x : Int} {s : List Ex} (h : x / 1000 = 0) : apC x s = (fun _ => x % 1000) :: s := by unfold apC; rw [if_pos h]
theorem apC_p {x : Int} {s : List Ex} (h : x / 1000 = 1) : apC x s = (fun φ => φ (x % 1000).toNat) :: s := by unfold apC; rw [if_neg (by omega), if_pos h]

abbrev kX8_joined : Kd := (cX8_joined, .code yX8_joined cX8_joined 3 (some .int) :: wsL_law0, rmL 1, RX8, (some .int), 3)
theorem ct_X8_joined : Ct kX8_joined yX8_joined (fun a hi Q => ∃ o : Int, ∃ x1 : Int, ∃ x2 : Int, a = [AI o, AI x1, AI x2] ∧ ((2 ≤ o ∧ o ≤ 10 ∧ o ≠ 7) ∧ (inR x1 ∧ inR x2 ∧ inR (x1 + x2) ∧ inR (x1 - x2)) ∧ (8 ≤ o → (x1 = 0 ∨ x1 = 1) ∧ (x2 = 0 ∨ x2 = 1))) ∧ ∀ v : Int, (v = jn o x1 x2) → Q (AI v) hi) := by
  refine Ct.of (ws' := _) (by decide +kernel) rfl rfl ?_
  intro a hi Q hT
  obtain ⟨o, x1, x2, rfl, hpre, hQ⟩ := hT
  refine ⟨Nat.le_of_ble_eq_true rfl, ?_⟩
  show Z kX8_joined Q 0 [(0, AI o), (1, AI x1), (2, AI x2)] [] hi
  obtain ⟨⟨o2, o10, o7⟩, ⟨ra, rb, rs, rd⟩, h8⟩ := hpre
  refine z_iload_n (pc := 0) dX8_joined_0 rfl 0 rfl ?_
  refine z_tsw (pc := 1)  (x := o) (dtgt := 89) (tg := [44, 48, 52, 63, 74, 89, 85]) dX8_joined_1 ⟨by omega, by omega⟩ rfl (by decide) ?_ ?_
  · intro c1
    refine z_iload_n (pc := 89) dX8_joined_89 rfl 1 rfl ?_
    refine z_iload_n (pc := 90) dX8_joined_90 rfl 2 rfl ?_
    refine z_ior (pc := 91) dX8_joined_91 (fun v2 ev2 => ?_)
    have bv2 := toI_inR ev2
    refine z_iret (pc := 92) rfl dX8_joined_92 ?_
    exact hQ v2 (by first | exact jn_or8 (by omega) (h8 (by omega)).1 (h8 (by omega)).2 ev2 | exact jn_and8 (by omega) (h8 (by omega)).1 (h8 (by omega)).2 ev2 | (exfalso; omega))
  · refine ⟨fun c1 => ?_, fun c1 => ?_, fun c1 => ?_, fun c1 => ?_, fun c1 => ?_, fun c1 => ?_, fun c1 => ?_, trivial⟩
    · refine z_iload_n (pc := 44) dX8_joined_44 rfl 1 rfl ?_
      refine z_iload_n (pc := 45) dX8_joined_45 rfl 2 rfl ?_
      refine z_iadd (pc := 46) dX8_joined_46 (fun v3 ev3 => ?_)
      refine z_iret (pc := 47) rfl dX8_joined_47 ?_
      exact hQ v3 (by unfold jn; (repeat (first | rw [if_pos (by omega)] | rw [if_neg (by omega)])); first | done | omega)
    · refine z_iload_n (pc := 48) dX8_joined_48 rfl 1 rfl ?_
      refine z_iload_n (pc := 49) dX8_joined_49 rfl 2 rfl ?_
      refine z_isub (pc := 50) dX8_joined_50 (fun v4 ev4 => ?_)
      refine z_iret (pc := 51) rfl dX8_joined_51 ?_
      exact hQ v4 (by unfold jn; (repeat (first | rw [if_pos (by omega)] | rw [if_neg (by omega)])); first | done | omega)
    · refine z_iload_n (pc := 52) dX8_joined_52 rfl 1 rfl ?_
      refine z_iload_n (pc := 53) dX8_joined_53 rfl 2 rfl ?_
      refine z_icmp_ge (pc := 54) (tgt := 61) dX8_joined_54 (by decide) ⟨by omega, by omega⟩ ⟨by omega, by omega⟩ (fun c5 => ?_) (fun c5 => ?_)
      · refine z_iconst (pc := 61) (v := 0) dX8_joined_61 rfl ?_
        refine z_iret (pc := 62) rfl dX8_joined_62 ?_
        exact hQ 0 (by unfold jn; (repeat (first | rw [if_pos (by omega)] | rw [if_neg (by omega)])); first | done | omega)
      · refine z_iconst (pc := 57) (v := 1) dX8_joined_57 rfl ?_
        refine z_goto (pc := 58) (tgt := 62) dX8_joined_58 (by decide) ?_
        refine z_iret (pc := 62) rfl dX8_joined_62 ?_
        exact hQ 1 (by unfold jn; (repeat (first | rw [if_pos (by omega)] | rw [if_neg (by omega)])); first | done | omega)
    · refine z_iload_n (pc := 63) dX8_joined_63 rfl 1 rfl ?_
      refine z_iload_n (pc := 64) dX8_joined_64 rfl 2 rfl ?_
      refine z_icmp_ne (pc := 65) (tgt := 72) dX8_joined_65 (by decide) ⟨by omega, by omega⟩ ⟨by omega, by omega⟩ (fun c6 => ?_) (fun c6 => ?_)
      · refine z_iconst (pc := 72) (v := 0) dX8_joined_72 rfl ?_
        refine z_iret (pc := 73) rfl dX8_joined_73 ?_
        exact hQ 0 (by unfold jn; (repeat (first | rw [if_pos (by omega)] | rw [if_neg (by omega)])); first | done | omega)
      · refine z_iconst (pc := 68) (v := 1) dX8_joined_68 rfl ?_
        refine z_goto (pc := 69) (tgt := 73) dX8_joined_69 (by decide) ?_
        refine z_iret (pc := 73) rfl dX8_joined_73 ?_
        exact hQ 1 (by unfold jn; (repeat (first | rw [if_pos (by omega)] | rw [if_neg (by omega)])); first | done | omega)
    · refine z_iload_n (pc := 74) dX8_joined_74 rfl 1 rfl ?_
      refine z_iload_n (pc := 75) dX8_joined_75 rfl 2 rfl ?_
      refine z_icmp_le (pc := 76) (tgt := 83) dX8_joined_76 (by decide) ⟨by omega, by omega⟩ ⟨by omega, by omega⟩ (fun c7 => ?_) (fun c7 => ?_)
      · refine z_iconst (pc := 83) (v := 0) dX8_joined_83 rfl ?_
        refine z_iret (pc := 84) rfl dX8_joined_84 ?_
        exact hQ 0 (by unfold jn; (repeat (first | rw [if_pos (by omega)] | rw [if_neg (by omega)])); first | done | omega)
      · refine z_iconst (pc := 79) (v := 1) dX8_joined_79 rfl ?_
        refine z_goto (pc := 80) (tgt := 84) dX8_joined_80 (by decide) ?_
        refine z_iret (pc := 84) rfl dX8_joined_84 ?_
        exact hQ 1 (by unfold jn; (repeat (first | rw [if_pos (by omega)] | rw [if_neg (by omega)])); first | done | omega)
    · refine z_iload_n (pc := 89) dX8_joined_89 rfl 1 rfl ?_
      refine z_iload_n (pc := 90) dX8_joined_90 rfl 2 rfl ?_
      refine z_ior (pc := 91) dX8_joined_91 (fun v8 ev8 => ?_)
      have bv8 := toI_inR ev8
      refine z_iret (pc := 92) rfl dX8_joined_92 ?_
      exact hQ v8 (by first | exact jn_or8 (by omega) (h8 (by omega)).1 (h8 (by omega)).2 ev8 | exact jn_and8 (by omega) (h8 (by omega)).1 (h8 (by omega)).2 ev8 | (exfalso; omega))
    · refine z_iload_n (pc := 85) dX8_joined_85 rfl 1 rfl ?_
      refine z_iload_n (pc := 86) dX8_joined_86 rfl 2 rfl ?_
      refine z_iand (pc := 87) dX8_joined_87 (fun v9 ev9 => ?_)
      have bv9 := toI_inR ev9
      refine z_iret (pc := 88) rfl dX8_joined_88 ?_
      exact hQ v9 (by first | exact jn_or8 (by omega) (h8 (by omega)).1 (h8 (by omega)).2 ev9 | exact jn_and8 (by omega) (h8 (by omega)).1 (h8 (by omega)).2 ev9 | (exfalso; omega))

abbrev kX8_holds : Kd := (cX8_holds, .code yX8_holds cX8_holds 5 (some .boolean) :: wsL_law0, rmL 2, RX8, (some .boolean), 5)
theorem ct_X8_holds : Ct kX8_holds yX8_holds (fun a hi Q => ∃ g : Ex, a = [AR 40] ∧ (CM hi [g] ∧ hi 39 24 ≤ 600 ∧ QB g ∧ (∀ j : Nat, j < 6 → -4000 ≤ hi 51 j ∧ hi 51 j ≤ 4000)) ∧ ∀ (v : Int) (h2 : HI), (Fr [52] hi h2 ∧ (v = g (hi 51))) → Q (AI v) h2) := by
  refine Ct.of (ws' := _) (by decide +kernel) rfl rfl ?_
  intro a hi Q hT
  obtain ⟨g, rfl, hpre, hQ⟩ := hT
  refine ⟨Nat.le_of_ble_eq_true rfl, ?_⟩
  show Z kX8_holds Q 0 [(0, AR 40)] [] hi
  obtain ⟨⟨c0, ce, co⟩, c6, qb, hf⟩ := hpre
  refine z_iconst (pc := 0) (v := 0) dX8_holds_0 rfl ?_
  refine z_istore_n (pc := 1) (lv' := [(1, AI 0), (0, AR 40)]) dX8_holds_1 rfl (by decide) rfl ?_
  refine z_iconst (pc := 2) (v := 0) dX8_holds_2 rfl ?_
  refine z_istore_n (pc := 3) (lv' := [(2, AI 0), (1, AI 0), (0, AR 40)]) dX8_holds_3 rfl (by decide) rfl ?_
  have J4 : ∀ (N : Nat) (t k : Int) (hk : HI), (0 ≤ k ∧ k ≤ hi 39 24) → (SV (hk 52) t (hi 49) (hi 51) k) → (Fr [52] hi hk) → ((hi 39 24 - k).toNat) < N → Z kX8_holds Q 4 [(2, AI k), (1, AI t), (0, AR 40)] [] hk := by
    intro N
    induction N with
    | zero => intro t k hk _ _ _ _; exact absurd (by assumption) (Nat.not_lt_zero _)
    | succ N ih4 =>
      intro t k hk i0 i1 frlhk hm4
      have tb := i1.1
      have okk : k < hi 39 24 → okX (hi 49 k.toNat) (evC (hi 49) k.toNat) := fun q => co k.toNat (by omega)
      refine z_iload_n (pc := 4) dX8_holds_4 rfl 0 rfl ?_
      refine z_aload_n (pc := 5) (x := 40) dX8_holds_5 rfl 2 rfl ?_
      refine z_getI (pc := 6) (pl := 39) (f := 24) (ci := 7) (C := RX8) (T := TX8) (N := 33) hu_X8 (by decide) rfl rfl (by decide) rfl (List.mem_cons_of_mem _ (iw36 _ (List.mem_of_getElem? (i := 5) rfl))) rfl (by decide) dX8_holds_6 (fun v1 ev1 rv1 => ?_)
      rw [(congrFun (frlhk 39 (by decide)) 24 : hk 39 24 = hi 39 24)] at ev1
      refine z_icmp_ge (pc := 9) (tgt := 134) dX8_holds_9 (by decide) ⟨by omega, by omega⟩ ⟨by omega, by omega⟩ (fun c2 => ?_) (fun c2 => ?_)
      · refine z_aload_n (pc := 134) (x := 40) dX8_holds_134 rfl 2 rfl ?_
        refine z_getR (pc := 135) (pl := 39) (f := 30) (ci := 7) (C := RX8) (T := TX8) (N := 33) hu_X8 (by decide) rfl rfl (by decide) rfl (List.mem_cons_of_mem _ (iw5 _ (List.mem_of_getElem? (i := 18) rfl))) rfl dX8_holds_135 ?_
        refine z_iconst (pc := 138) (v := 0) dX8_holds_138 rfl ?_
        refine z_iald (pc := 139) (pl := 52) (by decide) rfl (by decide) (by decide) (by decide) (by decide) dX8_holds_139 (fun v3 ev3 rv3 => ?_)
        replace ev3 : v3 = hk 52 0 := ev3
        have w139 := (show v3 = hk 52 0 from ev3).trans (sv_end i1 (by rw [show k = hi 39 24 by omega]; exact ce))
        refine z_iconst (pc := 140) (v := 1) dX8_holds_140 rfl ?_
        refine z_icmp_ne (pc := 141) (tgt := 148) dX8_holds_141 (by decide) ⟨by omega, by omega⟩ ⟨by decide, by decide⟩ (fun c4 => ?_) (fun c4 => ?_)
        · refine z_iconst (pc := 148) (v := 0) dX8_holds_148 rfl ?_
          refine z_zret (pc := 149) rfl (by decide) dX8_holds_149 ?_
          exact hQ 0 hk ⟨frlhk, by have q := qb (hi 51); omega⟩
        · refine z_iconst (pc := 144) (v := 1) dX8_holds_144 rfl ?_
          refine z_goto (pc := 145) (tgt := 149) dX8_holds_145 (by decide) ?_
          refine z_zret (pc := 149) rfl (by decide) dX8_holds_149 ?_
          exact hQ 1 hk ⟨frlhk, by have q := qb (hi 51); omega⟩
      · refine z_aload_n (pc := 12) (x := 40) dX8_holds_12 rfl 2 rfl ?_
        refine z_getR (pc := 13) (pl := 39) (f := 23) (ci := 7) (C := RX8) (T := TX8) (N := 33) hu_X8 (by decide) rfl rfl (by decide) rfl (List.mem_cons_of_mem _ (iw5 _ (List.mem_of_getElem? (i := 15) rfl))) rfl dX8_holds_13 ?_
        refine z_iload_n (pc := 16) dX8_holds_16 rfl 0 rfl ?_
        refine z_iald (pc := 17) (pl := 49) (by decide) rfl (by decide) (by decide) (by omega) (by omega) dX8_holds_17 (fun v5 ev5 rv5 => ?_)
        rw [(frlhk 49 (by decide) : hk 49 = hi 49)] at ev5
        have ok := okk (by omega)
        have okr := ok.1
        have w17 := ev5
        refine z_sipush (pc := 18) (v := 1000) dX8_holds_18 (by decide +kernel) ?_
        refine z_idiv (pc := 21) dX8_holds_21 ⟨by omega, by omega⟩ ⟨by decide, by decide⟩ (by omega) (fun v6 ev6 => ?_)
        refine z_istore_n (pc := 22) (lv' := [(3, AI v6), (2, AI k), (1, AI t), (0, AR 40)]) dX8_holds_22 rfl (by decide) rfl ?_
        refine z_aload_n (pc := 23) (x := 40) dX8_holds_23 rfl 3 rfl ?_
        refine z_getR (pc := 24) (pl := 39) (f := 23) (ci := 7) (C := RX8) (T := TX8) (N := 33) hu_X8 (by decide) rfl rfl (by decide) rfl (List.mem_cons_of_mem _ (iw5 _ (List.mem_of_getElem? (i := 15) rfl))) rfl dX8_holds_24 ?_
        refine z_iload_n (pc := 27) dX8_holds_27 rfl 1 rfl ?_
        refine z_iald (pc := 28) (pl := 49) (by decide) rfl (by decide) (by decide) (by omega) (by omega) dX8_holds_28 (fun v7 ev7 rv7 => ?_)
        rw [(frlhk 49 (by decide) : hk 49 = hi 49)] at ev7
        refine z_sipush (pc := 29) (v := 1000) dX8_holds_29 (by decide +kernel) ?_
        refine z_irem (pc := 32) dX8_holds_32 ⟨by omega, by omega⟩ ⟨by decide, by decide⟩ (by omega) (fun v8 ev8 => ?_)
        refine z_istore (pc := 33) (lv' := [(4, AI v8), (3, AI v6), (2, AI k), (1, AI t), (0, AR 40)]) dX8_holds_33 (by decide) rfl ?_
        refine z_iload_n (pc := 35) dX8_holds_35 rfl 1 rfl ?_
        refine z_if_eq (pc := 36) (tgt := 44) dX8_holds_36 (by decide) ⟨by omega, by omega⟩ (fun c9 => ?_) (fun c9 => ?_)
        · refine z_aload_n (pc := 44) (x := 40) dX8_holds_44 rfl 4 rfl ?_
          refine z_getR (pc := 45) (pl := 39) (f := 30) (ci := 7) (C := RX8) (T := TX8) (N := 33) hu_X8 (by decide) rfl rfl (by decide) rfl (List.mem_cons_of_mem _ (iw5 _ (List.mem_of_getElem? (i := 18) rfl))) rfl dX8_holds_45 ?_
          refine z_iload_n (pc := 48) dX8_holds_48 rfl 3 rfl ?_
          refine z_iload_n (pc := 49) dX8_holds_49 rfl 1 rfl ?_
          refine z_if_ne (pc := 50) (tgt := 58) dX8_holds_50 (by decide) ⟨by omega, by omega⟩ (fun c10 => ?_) (fun c10 => ?_)
          · have ok6 := ok.2.1 (by omega)
            refine z_aload_n (pc := 58) (x := 40) dX8_holds_58 rfl 4 rfl ?_
            refine z_getR (pc := 59) (pl := 39) (f := 29) (ci := 7) (C := RX8) (T := TX8) (N := 33) hu_X8 (by decide) rfl rfl (by decide) rfl (List.mem_cons_of_mem _ (iw5 _ (List.mem_of_getElem? (i := 17) rfl))) rfl dX8_holds_59 ?_
            refine z_iload (pc := 62) dX8_holds_62 0 rfl ?_
            refine z_iald (pc := 64) (pl := 51) (by decide) rfl (by decide) (by decide) (by omega) (by omega) dX8_holds_64 (fun v11 ev11 rv11 => ?_)
            rw [(frlhk 51 (by decide) : hk 51 = hi 51)] at ev11
            have hfv := hf (v8).toNat (by have := ok.2.1; omega)
            have w64 := ev11
            refine z_iast (pc := 65) (pl := 52) (by decide) rfl (by decide) (by omega) (by omega) ⟨by omega, by omega⟩ dX8_holds_65 (fun h12 eh12 => ?_)
            have frh12 : Fr [52] hi h12 := (Fr.put frlhk eh12 (by decide))
            have u52 : h12 52 = updI (hk 52) t.toNat v11 := by rw [eh12, hput_same]
            refine z_iinc (pc := 66) (j := 3) (w := fun q => (1, AI q) :: [(4, AI v8), (3, AI v6), (2, AI k), (0, AR 40)]) dX8_holds_66 rfl (by decide) (fun _ => rfl) (fun v13 ev13 => ?_)
            refine z_goto (pc := 69) (tgt := 128) dX8_holds_69 (by decide) ?_
            refine z_iinc (pc := 128) (j := 3) (w := fun q => (2, AI q) :: [(1, AI v13), (4, AI v8), (3, AI v6), (0, AR 40)]) dX8_holds_128 rfl (by decide) (fun _ => rfl) (fun v14 ev14 => ?_)
            refine z_goto (pc := 131) (tgt := 4) dX8_holds_131 (by decide) ?_
            refine z_sub (lv' := [(2, AI v14), (1, AI v13), (0, AR 40)]) [0, 1, 4] rfl ?_
            exact ih4 v13 v14 h12 (by omega) (by first | exact sv_psh i1 (by omega) (by omega) (by omega) (apC_k (by omega)) (by omega) (by omega) u52 | exact sv_psh i1 (by omega) (by omega) (by omega) (apC_p (by omega)) (by rw [w64]; exact congrArg (fun z : Int => hi 51 z.toNat) (by omega)) (by omega) u52 | exact sv_not i1 eG (by omega) (by omega) (by omega) (by omega) u52 | exact sv_bin i1 eG (by omega) (by omega) (by omega) (by omega) (by omega) (by omega) (by rw [w124, w117, w123]; exact congrArg (fun z => jn z _ _) (by omega)) u52) (frh12) (by omega)
          · refine z_iload (pc := 53) dX8_holds_53 0 rfl ?_
            refine z_goto (pc := 55) (tgt := 65) dX8_holds_55 (by decide) ?_
            refine z_iast (pc := 65) (pl := 52) (by decide) rfl (by decide) (by omega) (by omega) ⟨by omega, by omega⟩ dX8_holds_65 (fun h15 eh15 => ?_)
            have frh15 : Fr [52] hi h15 := (Fr.put frlhk eh15 (by decide))
            have u52 : h15 52 = updI (hk 52) t.toNat v8 := by rw [eh15, hput_same]
            refine z_iinc (pc := 66) (j := 3) (w := fun q => (1, AI q) :: [(4, AI v8), (3, AI v6), (2, AI k), (0, AR 40)]) dX8_holds_66 rfl (by decide) (fun _ => rfl) (fun v16 ev16 => ?_)
            refine z_goto (pc := 69) (tgt := 128) dX8_holds_69 (by decide) ?_
            refine z_iinc (pc := 128) (j := 3) (w := fun q => (2, AI q) :: [(1, AI v16), (4, AI v8), (3, AI v6), (0, AR 40)]) dX8_holds_128 rfl (by decide) (fun _ => rfl) (fun v17 ev17 => ?_)
            refine z_goto (pc := 131) (tgt := 4) dX8_holds_131 (by decide) ?_
            refine z_sub (lv' := [(2, AI v17), (1, AI v16), (0, AR 40)]) [0, 1, 4] rfl ?_
            exact ih4 v16 v17 h15 (by omega) (by first | exact sv_psh i1 (by omega) (by omega) (by omega) (apC_k (by omega)) (by omega) (by omega) u52 | exact sv_psh i1 (by omega) (by omega) (by omega) (apC_p (by omega)) (by rw [w64]; exact congrArg (fun z : Int => hi 51 z.toNat) (by omega)) (by omega) u52 | exact sv_not i1 eG (by omega) (by omega) (by omega) (by omega) u52 | exact sv_bin i1 eG (by omega) (by omega) (by omega) (by omega) (by omega) (by omega) (by rw [w124, w117, w123]; exact congrArg (fun z => jn z _ _) (by omega)) u52) (frh15) (by omega)
        · refine z_iload_n (pc := 39) dX8_holds_39 rfl 1 rfl ?_
          refine z_iconst (pc := 40) (v := 1) dX8_holds_40 rfl ?_
          refine z_icmp_ne (pc := 41) (tgt := 72) dX8_holds_41 (by decide) ⟨by omega, by omega⟩ ⟨by decide, by decide⟩ (fun c18 => ?_) (fun c18 => ?_)
          · refine z_iload_n (pc := 72) dX8_holds_72 rfl 1 rfl ?_
            refine z_bipush (pc := 73) (v := 7) dX8_holds_73 (by decide +kernel) ?_
            refine z_icmp_ne (pc := 75) (tgt := 99) dX8_holds_75 (by decide) ⟨by omega, by omega⟩ ⟨by decide, by decide⟩ (fun c19 => ?_) (fun c19 => ?_)
            · have k2 := ok.2.2.2 (by omega) (by omega) (by omega)
              obtain ⟨b, a, G, eG⟩ := ok_two k2.1
              have st := sv_two i1 eG
              have sb := sv_bd2 i1 eG (by omega)
              have q8 : 8 ≤ hi 49 k.toNat / 1000 → QB a ∧ QB b := fun q => by have := k2.2 q; rw [eG] at this; exact this
              refine z_iinc (pc := 99) (j := 3) (w := fun q => (1, AI q) :: [(4, AI v8), (3, AI v6), (2, AI k), (0, AR 40)]) dX8_holds_99 rfl (by decide) (fun _ => rfl) (fun v20 ev20 => ?_)
              refine z_aload_n (pc := 102) (x := 40) dX8_holds_102 rfl 4 rfl ?_
              refine z_getR (pc := 103) (pl := 39) (f := 30) (ci := 7) (C := RX8) (T := TX8) (N := 33) hu_X8 (by decide) rfl rfl (by decide) rfl (List.mem_cons_of_mem _ (iw5 _ (List.mem_of_getElem? (i := 18) rfl))) rfl dX8_holds_103 ?_
              refine z_iload_n (pc := 106) dX8_holds_106 rfl 0 rfl ?_
              refine z_iconst (pc := 107) (v := 1) dX8_holds_107 rfl ?_
              refine z_isub (pc := 108) dX8_holds_108 (fun v21 ev21 => ?_)
              refine z_iload_n (pc := 109) dX8_holds_109 rfl 2 rfl ?_
              refine z_aload_n (pc := 110) (x := 40) dX8_holds_110 rfl 4 rfl ?_
              refine z_getR (pc := 111) (pl := 39) (f := 30) (ci := 7) (C := RX8) (T := TX8) (N := 33) hu_X8 (by decide) rfl rfl (by decide) rfl (List.mem_cons_of_mem _ (iw5 _ (List.mem_of_getElem? (i := 18) rfl))) rfl dX8_holds_111 ?_
              refine z_iload_n (pc := 114) dX8_holds_114 rfl 0 rfl ?_
              refine z_iconst (pc := 115) (v := 1) dX8_holds_115 rfl ?_
              refine z_isub (pc := 116) dX8_holds_116 (fun v22 ev22 => ?_)
              refine z_iald (pc := 117) (pl := 52) (by decide) rfl (by decide) (by decide) (by omega) (by omega) dX8_holds_117 (fun v23 ev23 rv23 => ?_)
              have w117 : v23 = a (hi 51) := by rw [ev23, show (v22 : Int) = t - 2 by omega]; exact st.2.2.1
              refine z_aload_n (pc := 118) (x := 40) dX8_holds_118 rfl 4 rfl ?_
              refine z_getR (pc := 119) (pl := 39) (f := 30) (ci := 7) (C := RX8) (T := TX8) (N := 33) hu_X8 (by decide) rfl rfl (by decide) rfl (List.mem_cons_of_mem _ (iw5 _ (List.mem_of_getElem? (i := 18) rfl))) rfl dX8_holds_119 ?_
              refine z_iload_n (pc := 122) dX8_holds_122 rfl 0 rfl ?_
              refine z_iald (pc := 123) (pl := 52) (by decide) rfl (by decide) (by decide) (by omega) (by omega) dX8_holds_123 (fun v24 ev24 rv24 => ?_)
              have w123 : v24 = b (hi 51) := by rw [ev24, show (v20 : Int) = t - 1 by omega]; exact st.2.1
              refine z_callS (pc := 124) (kc := kX8_joined) (n := 3) (As := [AI v6, AI v23, AI v24]) (stk := [AI v21, AR 53]) ct_X8_joined (gdS rfl rfl (iw39 _ (List.mem_of_getElem? (i := 15) rfl)) (iw39 _ (List.mem_of_getElem? (i := 16) rfl)) (iw1 _ (List.mem_of_getElem? (i := 5) rfl)) (iw39 _ (List.mem_of_getElem? (i := 17) rfl))) rfl ⟨rfl, rfl⟩ (by decide +kernel) ⟨by decide, by decide⟩ dX8_holds_124 rfl rfl (Nat.le_of_ble_eq_true rfl) ?_
              refine ⟨_, _, _, rfl, ⟨by omega, ⟨⟨by omega, by omega⟩, ⟨by omega, by omega⟩, ⟨by omega, by omega⟩, ⟨by omega, by omega⟩⟩, fun q => by rw [w117, w123]; have q9 := q8 (by omega); exact ⟨q9.1 _, q9.2 _⟩⟩, fun v25 ev25 => ?_⟩
              have w124 := ev25
              have ja := jn_abs (o := v6) (a := v23) (b := v24)
              refine z_iast (pc := 127) (pl := 52) (by decide) rfl (by decide) (by omega) (by omega) ⟨by omega, by omega⟩ dX8_holds_127 (fun h26 eh26 => ?_)
              have frh26 : Fr [52] hi h26 := (Fr.put frlhk eh26 (by decide))
              have u52 : h26 52 = updI (hk 52) (t - 2).toNat v25 := by rw [eh26, hput_same]; exact updI_c (by omega) rfl
              refine z_iinc (pc := 128) (j := 3) (w := fun q => (2, AI q) :: [(1, AI v20), (4, AI v8), (3, AI v6), (0, AR 40)]) dX8_holds_128 rfl (by decide) (fun _ => rfl) (fun v27 ev27 => ?_)
              refine z_goto (pc := 131) (tgt := 4) dX8_holds_131 (by decide) ?_
              refine z_sub (lv' := [(2, AI v27), (1, AI v20), (0, AR 40)]) [0, 1, 4] rfl ?_
              exact ih4 v20 v27 h26 (by omega) (by first | exact sv_psh i1 (by omega) (by omega) (by omega) (apC_k (by omega)) (by omega) (by omega) u52 | exact sv_psh i1 (by omega) (by omega) (by omega) (apC_p (by omega)) (by rw [w64]; exact congrArg (fun z : Int => hi 51 z.toNat) (by omega)) (by omega) u52 | exact sv_not i1 eG (by omega) (by omega) (by omega) (by omega) u52 | exact sv_bin i1 eG (by omega) (by omega) (by omega) (by omega) (by omega) (by omega) (by rw [w124, w117, w123]; exact congrArg (fun z => jn z _ _) (by omega)) u52) (frh26) (by omega)
            · obtain ⟨b, G, eG⟩ := ok_one (x := 0) (ok.2.2.1 (by omega))
              have st := sv_top i1 eG
              have sb := sv_bd1 i1 eG (by omega)
              refine z_aload_n (pc := 78) (x := 40) dX8_holds_78 rfl 4 rfl ?_
              refine z_getR (pc := 79) (pl := 39) (f := 30) (ci := 7) (C := RX8) (T := TX8) (N := 33) hu_X8 (by decide) rfl rfl (by decide) rfl (List.mem_cons_of_mem _ (iw5 _ (List.mem_of_getElem? (i := 18) rfl))) rfl dX8_holds_79 ?_
              refine z_iload_n (pc := 82) dX8_holds_82 rfl 3 rfl ?_
              refine z_iconst (pc := 83) (v := 1) dX8_holds_83 rfl ?_
              refine z_isub (pc := 84) dX8_holds_84 (fun v28 ev28 => ?_)
              refine z_iconst (pc := 85) (v := 1) dX8_holds_85 rfl ?_
              refine z_aload_n (pc := 86) (x := 40) dX8_holds_86 rfl 4 rfl ?_
              refine z_getR (pc := 87) (pl := 39) (f := 30) (ci := 7) (C := RX8) (T := TX8) (N := 33) hu_X8 (by decide) rfl rfl (by decide) rfl (List.mem_cons_of_mem _ (iw5 _ (List.mem_of_getElem? (i := 18) rfl))) rfl dX8_holds_87 ?_
              refine z_iload_n (pc := 90) dX8_holds_90 rfl 3 rfl ?_
              refine z_iconst (pc := 91) (v := 1) dX8_holds_91 rfl ?_
              refine z_isub (pc := 92) dX8_holds_92 (fun v29 ev29 => ?_)
              refine z_iald (pc := 93) (pl := 52) (by decide) rfl (by decide) (by decide) (by omega) (by omega) dX8_holds_93 (fun v30 ev30 rv30 => ?_)
              have w93 : v30 = b (hi 51) := by rw [ev30, show (v29 : Int) = t - 1 by omega]; exact st.2.1
              refine z_isub (pc := 94) dX8_holds_94 (fun v31 ev31 => ?_)
              refine z_iast (pc := 95) (pl := 52) (by decide) rfl (by decide) (by omega) (by omega) ⟨by omega, by omega⟩ dX8_holds_95 (fun h32 eh32 => ?_)
              have frh32 : Fr [52] hi h32 := (Fr.put frlhk eh32 (by decide))
              have u52 : h32 52 = updI (hk 52) (t - 1).toNat v31 := by rw [eh32, hput_same]; exact updI_c (by omega) rfl
              refine z_goto (pc := 96) (tgt := 128) dX8_holds_96 (by decide) ?_
              refine z_iinc (pc := 128) (j := 2) (w := fun q => (2, AI q) :: [(4, AI v8), (3, AI v6), (1, AI t), (0, AR 40)]) dX8_holds_128 rfl (by decide) (fun _ => rfl) (fun v33 ev33 => ?_)
              refine z_goto (pc := 131) (tgt := 4) dX8_holds_131 (by decide) ?_
              refine z_sub (lv' := [(2, AI v33), (1, AI t), (0, AR 40)]) [0, 3, 4] rfl ?_
              exact ih4 t v33 h32 (by omega) (by first | exact sv_psh i1 (by omega) (by omega) (by omega) (apC_k (by omega)) (by omega) (by omega) u52 | exact sv_psh i1 (by omega) (by omega) (by omega) (apC_p (by omega)) (by rw [w64]; exact congrArg (fun z : Int => hi 51 z.toNat) (by omega)) (by omega) u52 | exact sv_not i1 eG (by omega) (by omega) (by omega) (by omega) u52 | exact sv_bin i1 eG (by omega) (by omega) (by omega) (by omega) (by omega) (by omega) (by rw [w124, w117, w123]; exact congrArg (fun z => jn z _ _) (by omega)) u52) (frh32) (by omega)
          · refine z_aload_n (pc := 44) (x := 40) dX8_holds_44 rfl 4 rfl ?_
            refine z_getR (pc := 45) (pl := 39) (f := 30) (ci := 7) (C := RX8) (T := TX8) (N := 33) hu_X8 (by decide) rfl rfl (by decide) rfl (List.mem_cons_of_mem _ (iw5 _ (List.mem_of_getElem? (i := 18) rfl))) rfl dX8_holds_45 ?_
            refine z_iload_n (pc := 48) dX8_holds_48 rfl 3 rfl ?_
            refine z_iload_n (pc := 49) dX8_holds_49 rfl 1 rfl ?_
            refine z_if_ne (pc := 50) (tgt := 58) dX8_holds_50 (by decide) ⟨by omega, by omega⟩ (fun c34 => ?_) (fun c34 => ?_)
            · have ok6 := ok.2.1 (by omega)
              refine z_aload_n (pc := 58) (x := 40) dX8_holds_58 rfl 4 rfl ?_
              refine z_getR (pc := 59) (pl := 39) (f := 29) (ci := 7) (C := RX8) (T := TX8) (N := 33) hu_X8 (by decide) rfl rfl (by decide) rfl (List.mem_cons_of_mem _ (iw5 _ (List.mem_of_getElem? (i := 17) rfl))) rfl dX8_holds_59 ?_
              refine z_iload (pc := 62) dX8_holds_62 0 rfl ?_
              refine z_iald (pc := 64) (pl := 51) (by decide) rfl (by decide) (by decide) (by omega) (by omega) dX8_holds_64 (fun v35 ev35 rv35 => ?_)
              rw [(frlhk 51 (by decide) : hk 51 = hi 51)] at ev35
              have hfv := hf (v8).toNat (by have := ok.2.1; omega)
              have w64 := ev35
              refine z_iast (pc := 65) (pl := 52) (by decide) rfl (by decide) (by omega) (by omega) ⟨by omega, by omega⟩ dX8_holds_65 (fun h36 eh36 => ?_)
              have frh36 : Fr [52] hi h36 := (Fr.put frlhk eh36 (by decide))
              have u52 : h36 52 = updI (hk 52) t.toNat v35 := by rw [eh36, hput_same]
              refine z_iinc (pc := 66) (j := 3) (w := fun q => (1, AI q) :: [(4, AI v8), (3, AI v6), (2, AI k), (0, AR 40)]) dX8_holds_66 rfl (by decide) (fun _ => rfl) (fun v37 ev37 => ?_)
              refine z_goto (pc := 69) (tgt := 128) dX8_holds_69 (by decide) ?_
              refine z_iinc (pc := 128) (j := 3) (w := fun q => (2, AI q) :: [(1, AI v37), (4, AI v8), (3, AI v6), (0, AR 40)]) dX8_holds_128 rfl (by decide) (fun _ => rfl) (fun v38 ev38 => ?_)
              refine z_goto (pc := 131) (tgt := 4) dX8_holds_131 (by decide) ?_
              refine z_sub (lv' := [(2, AI v38), (1, AI v37), (0, AR 40)]) [0, 1, 4] rfl ?_
              exact ih4 v37 v38 h36 (by omega) (by first | exact sv_psh i1 (by omega) (by omega) (by omega) (apC_k (by omega)) (by omega) (by omega) u52 | exact sv_psh i1 (by omega) (by omega) (by omega) (apC_p (by omega)) (by rw [w64]; exact congrArg (fun z : Int => hi 51 z.toNat) (by omega)) (by omega) u52 | exact sv_not i1 eG (by omega) (by omega) (by omega) (by omega) u52 | exact sv_bin i1 eG (by omega) (by omega) (by omega) (by omega) (by omega) (by omega) (by rw [w124, w117, w123]; exact congrArg (fun z => jn z _ _) (by omega)) u52) (frh36) (by omega)
            · refine z_iload (pc := 53) dX8_holds_53 0 rfl ?_
              refine z_goto (pc := 55) (tgt := 65) dX8_holds_55 (by decide) ?_
              refine z_iast (pc := 65) (pl := 52) (by decide) rfl (by decide) (by omega) (by omega) ⟨by omega, by omega⟩ dX8_holds_65 (fun h39 eh39 => ?_)
              have frh39 : Fr [52] hi h39 := (Fr.put frlhk eh39 (by decide))
              have u52 : h39 52 = updI (hk 52) t.toNat v8 := by rw [eh39, hput_same]
              refine z_iinc (pc := 66) (j := 3) (w := fun q => (1, AI q) :: [(4, AI v8), (3, AI v6), (2, AI k), (0, AR 40)]) dX8_holds_66 rfl (by decide) (fun _ => rfl) (fun v40 ev40 => ?_)
              refine z_goto (pc := 69) (tgt := 128) dX8_holds_69 (by decide) ?_
              refine z_iinc (pc := 128) (j := 3) (w := fun q => (2, AI q) :: [(1, AI v40), (4, AI v8), (3, AI v6), (0, AR 40)]) dX8_holds_128 rfl (by decide) (fun _ => rfl) (fun v41 ev41 => ?_)
              refine z_goto (pc := 131) (tgt := 4) dX8_holds_131 (by decide) ?_
              refine z_sub (lv' := [(2, AI v41), (1, AI v40), (0, AR 40)]) [0, 1, 4] rfl ?_
              exact ih4 v40 v41 h39 (by omega) (by first | exact sv_psh i1 (by omega) (by omega) (by omega) (apC_k (by omega)) (by omega) (by omega) u52 | exact sv_psh i1 (by omega) (by omega) (by omega) (apC_p (by omega)) (by rw [w64]; exact congrArg (fun z : Int => hi 51 z.toNat) (by omega)) (by omega) u52 | exact sv_not i1 eG (by omega) (by omega) (by omega) (by omega) u52 | exact sv_bin i1 eG (by omega) (by omega) (by omega) (by omega) (by omega) (by omega) (by rw [w124, w117, w123]; exact congrArg (fun z => jn z _ _) (by omega)) u52) (frh39) (by omega)
  exact J4 _ 0 0 hi (by omega) (sv_0 rfl rfl) ((Fr.rf)) (Nat.lt_succ_self _)

/-! questions: what one is, by its tokens -/
abbrev Ex : Type := (Nat → Int) → Int
def FIq (oh s : Int) : Int := if oh = 1 then sgH.getD s.toNat 0 else sgL.getD s.toNat 0
theorem FI_all : ∀ k : Fin 41, (-1 ≤ FIq 1 k.val ∧ FIq 1 k.val < 5) ∧ (-1 ≤ FIq 0 k.val ∧ FIq 0 k.val < 6) ∧ (k.val < 12 → FIq 1 k.val = -1 ∧ FIq 0 k.val = -1) := by decide +kernel
theorem FI_bd {oh s : Int} (ho : oh = 0 ∨ oh = 1) (h0 : 0 ≤ s) (h1 : s < 41) : -1 ≤ FIq oh s ∧ FIq oh s < 6 ∧ (oh = 1 → FIq oh s < 5) ∧ (s < 12 → FIq oh s = -1) := by
  have q := FI_all ⟨s.toNat, by omega⟩
  have e : ((s.toNat : Nat) : Int) = s := by omega
  simp only [e] at q
  rcases ho with z | z <;> subst z
  · refine ⟨q.2.1.1, q.2.1.2, fun z => by omega, fun z => (q.2.2 (by omega)).2⟩
  · refine ⟨q.1.1, by omega, fun _ => q.1.2, fun z => (q.2.2 (by omega)).1⟩
def jn (o a b : Int) : Int := if o = 2 then a + b else if o = 3 then a - b else if o = 4 then (if a < b then 1 else 0) else if o = 5 then (if a = b then 1 else 0) else if o = 6 then (if b < a then 1 else 0) else if o = 8 then (if a = 1 ∧ b = 1 then 1 else 0) else (if a = 1 ∨ b = 1 then 1 else 0)
def bin (o : Int) (a b : Ex) : Ex := fun φ => jn o (a φ) (b φ)
def nt (g : Ex) : Ex := fun φ => 1 - g φ
def valF (oh : Int) (S P V : Nat → Int) (c : Nat) : Int ⊕ Ex := if S c = 2 then .inr (fun _ => V c) else if 0 ≤ FIq oh (S c) then .inr (fun φ => φ (FIq oh (S c)).toNat) else .inl (P c)
def smR (oh : Int) (S P V : Nat → Int) : Nat → Nat → Ex → Int ⊕ (Nat × Ex)
  | 0, c, g => .inr (c, g)
  | n + 1, c, g => if S c = 4 ∨ S c = 5 then (match valF oh S P V (c + 1) with
    | .inl p => .inl p
    | .inr h => smR oh S P V n (c + 1 + 1) (bin (if S c = 4 then 2 else 3) g h)) else .inr (c, g)
def sumF (oh : Int) (S P V : Nat → Int) (c : Nat) : Int ⊕ (Nat × Ex) := match valF oh S P V c with
  | .inl p => .inl p
  | .inr g => smR oh S P V 700 (c + 1) g
def cmpF (oh : Int) (S P V : Nat → Int) (c : Nat) : Int ⊕ (Nat × Ex) := match sumF oh S P V c with
  | .inl p => .inl p
  | .inr (c1, a) => if S c1 = 6 ∨ S c1 = 7 ∨ S c1 = 8 then (match sumF oh S P V (c1 + 1) with
    | .inl p => .inl p
    | .inr (c2, b) => .inr (c2, bin (S c1 - 2) a b)) else .inl (P c1)
theorem smR_out {oh : Int} {S P V : Nat → Int} {c : Nat} {g : Ex} (n : Nat) (h : ¬ (S c = 4 ∨ S c = 5)) : smR oh S P V n c g = .inr (c, g) := by
  cases n with
  | zero => rfl
  | succ n => unfold smR; rw [if_neg h]
theorem smR_in {oh : Int} {S P V : Nat → Int} {n c : Nat} {g h : Ex} (hn : 0 < n) (hs : S c = 4 ∨ S c = 5) (hv : valF oh S P V (c + 1) = .inr h) : smR oh S P V n c g = smR oh S P V (n - 1) (c + 1 + 1) (bin (if S c = 4 then 2 else 3) g h) := by
  cases n with
  | zero => omega
  | succ n =>
    show (if S c = 4 ∨ S c = 5 then _ else _) = _
    rw [if_pos hs, hv]; rfl
theorem smR_bad {oh : Int} {S P V : Nat → Int} {n c : Nat} {g : Ex} {p : Int} (hn : 0 < n) (hs : S c = 4 ∨ S c = 5) (hv : valF oh S P V (c + 1) = .inl p) : smR oh S P V n c g = .inl p := by
  cases n with
  | zero => omega
  | succ n =>
    show (if S c = 4 ∨ S c = 5 then _ else _) = _
    rw [if_pos hs, hv]
theorem sumF_bad {oh : Int} {S P V : Nat → Int} {c : Nat} {p : Int} (hv : valF oh S P V c = .inl p) : sumF oh S P V c = .inl p := by unfold sumF; rw [hv]
theorem sumF_ok {oh : Int} {S P V : Nat → Int} {c : Nat} {g : Ex} (hv : valF oh S P V c = .inr g) : sumF oh S P V c = smR oh S P V 700 (c + 1) g := by unfold sumF; rw [hv]
theorem cmpF_bad1 {oh : Int} {S P V : Nat → Int} {c : Nat} {p : Int} (h : sumF oh S P V c = .inl p) : cmpF oh S P V c = .inl p := by unfold cmpF; rw [h]
theorem cmpF_bad2 {oh : Int} {S P V : Nat → Int} {c c1 : Nat} {a : Ex} (h : sumF oh S P V c = .inr (c1, a)) (hs : ¬ (S c1 = 6 ∨ S c1 = 7 ∨ S c1 = 8)) : cmpF oh S P V c = .inl (P c1) := by unfold cmpF; rw [h]; exact if_neg hs
theorem cmpF_bad3 {oh : Int} {S P V : Nat → Int} {c c1 : Nat} {a : Ex} {p : Int} (h : sumF oh S P V c = .inr (c1, a)) (hs : S c1 = 6 ∨ S c1 = 7 ∨ S c1 = 8) (h2 : sumF oh S P V (c1 + 1) = .inl p) : cmpF oh S P V c = .inl p := by
  unfold cmpF; rw [h]
  show (if S c1 = 6 ∨ S c1 = 7 ∨ S c1 = 8 then _ else _) = _
  rw [if_pos hs, h2]
theorem cmpF_ok {oh : Int} {S P V : Nat → Int} {c c1 c2 : Nat} {a b : Ex} (h : sumF oh S P V c = .inr (c1, a)) (hs : S c1 = 6 ∨ S c1 = 7 ∨ S c1 = 8) (h2 : sumF oh S P V (c1 + 1) = .inr (c2, b)) : cmpF oh S P V c = .inr (c2, bin (S c1 - 2) a b) := by
  unfold cmpF; rw [h]
  show (if S c1 = 6 ∨ S c1 = 7 ∨ S c1 = 8 then _ else _) = _
  rw [if_pos hs, h2]
/-! the machine: (0 ahead of a fact, 1 behind one; the token; what waits; what is known) -/
abbrev St : Type := Nat × Nat × List Int × List Ex
abbrev QR : Type := (Int × Int) ⊕ Ex
def opn (W : List Int) : Nat := (W.filter (fun o => o == 7 || o == 10)).length
def z0E : Ex := fun _ => 0
def topW (W : List Int) : Int := W.headD 0
def orW (W : List Int) (G : List Ex) : List Ex := bin 9 (G.tail.headD z0E) (G.headD z0E) :: G.tail.tail
def stp (oh : Int) (S P V : Nat → Int) (s : St) : St ⊕ QR :=
  if s.1 = 0 then
    (if S s.2.1 = 29 ∨ S s.2.1 = 9 then (if 5 ≤ opn s.2.2.1 then .inr (.inl (2, P s.2.1)) else .inl (0, s.2.1 + 1, (if S s.2.1 = 29 then 7 else 10) :: s.2.2.1, s.2.2.2))
    else (match cmpF oh S P V s.2.1 with
      | .inl p => .inr (.inl (1, p))
      | .inr (c2, g) => .inl (1, c2, s.2.2.1, g :: s.2.2.2)))
  else if topW s.2.2.1 = 7 then .inl (1, s.2.1, s.2.2.1.tail, nt (s.2.2.2.headD z0E) :: s.2.2.2.tail)
  else if topW s.2.2.1 = 8 then .inl (1, s.2.1, s.2.2.1.tail, bin 8 (s.2.2.2.tail.headD z0E) (s.2.2.2.headD z0E) :: s.2.2.2.tail.tail)
  else if S s.2.1 = 28 then .inl (0, s.2.1 + 1, 8 :: s.2.2.1, s.2.2.2)
  else if S s.2.1 = 27 then (if topW s.2.2.1 = 9 then .inl (1, s.2.1, s.2.2.1.tail, orW s.2.2.1 s.2.2.2) else .inl (0, s.2.1 + 1, 9 :: s.2.2.1, s.2.2.2))
  else if (S s.2.1 = 10 ∧ 10 ∈ s.2.2.1) ∨ (S s.2.1 = 0 ∧ 10 ∉ s.2.2.1) then
    (if topW s.2.2.1 = 9 then .inl (1, s.2.1, s.2.2.1.tail, orW s.2.2.1 s.2.2.2) else if S s.2.1 = 10 then .inl (1, s.2.1 + 1, s.2.2.1.tail, s.2.2.2) else .inr (.inr (s.2.2.2.headD z0E)))
  else .inr (.inl (1, P s.2.1))
def mu (s : St) : Nat := 2 * (700 - s.2.1) + s.2.2.1.length
def res (oh : Int) (S P V : Nat → Int) (s : St) : QR := match stp oh S P V s with
  | .inl t => if _h : mu t < mu s then res oh S P V t else .inr z0E
  | .inr r => r
termination_by mu s
theorem res_in {oh : Int} {S P V : Nat → Int} {s t : St} (h : stp oh S P V s = .inl t) (hm : mu t < mu s) : res oh S P V s = res oh S P V t := by
  rw [res, h]
  exact dif_pos hm
theorem res_out {oh : Int} {S P V : Nat → Int} {s : St} {r : QR} (h : stp oh S P V s = .inr r) : res oh S P V s = r := by
  rw [res, h]
section QM
variable {oh : Int} {S P V : Nat → Int} {c c2 : Nat} {W : List Int} {G : List Ex} {a b g : Ex} {p : Int}
theorem r_push (hs : S c = 29 ∨ S c = 9) (ho : opn W < 5) (hc : c < 700) : res oh S P V (0, c, W, G) = res oh S P V (0, c + 1, (if S c = 29 then 7 else 10) :: W, G) := by
  refine res_in ?_ ?_
  · unfold stp; dsimp only; rw [if_pos rfl, if_pos hs, if_neg (by omega)]
  · unfold mu; simp only [List.length_cons]; omega
theorem r_deep (hs : S c = 29 ∨ S c = 9) (ho : 5 ≤ opn W) : res oh S P V (0, c, W, G) = .inl (2, P c) := by
  refine res_out ?_
  unfold stp; dsimp only; rw [if_pos rfl, if_pos hs, if_pos ho]
theorem r_cmp (hs : ¬ (S c = 29 ∨ S c = 9)) (h : cmpF oh S P V c = .inr (c2, g)) (h1 : c < c2) (hc : c < 700) : res oh S P V (0, c, W, G) = res oh S P V (1, c2, W, g :: G) := by
  refine res_in ?_ ?_
  · unfold stp; dsimp only; rw [if_pos rfl, if_neg hs, h]
  · unfold mu; dsimp only; omega
theorem r_cmpF (hs : ¬ (S c = 29 ∨ S c = 9)) (h : cmpF oh S P V c = .inl p) : res oh S P V (0, c, W, G) = .inl (1, p) := by
  refine res_out ?_
  unfold stp; dsimp only; rw [if_pos rfl, if_neg hs, h]
theorem r_nt : res oh S P V (1, c, 7 :: W, g :: G) = res oh S P V (1, c, W, nt g :: G) := by
  refine res_in ?_ ?_
  · unfold stp; dsimp only; rw [if_neg (by decide), if_pos (show topW (7 :: W) = 7 from rfl)]; rfl
  · unfold mu; simp only [List.length_cons]; omega
theorem r_and : res oh S P V (1, c, 8 :: W, b :: a :: G) = res oh S P V (1, c, W, bin 8 a b :: G) := by
  refine res_in ?_ ?_
  · unfold stp; dsimp only; rw [if_neg (by decide), if_neg (by show ¬ ((8 : Int) = 7); decide), if_pos (show topW (8 :: W) = 8 from rfl)]; rfl
  · unfold mu; simp only [List.length_cons]; omega
theorem r_pushA (h7 : topW W ≠ 7) (h8 : topW W ≠ 8) (hs : S c = 28) (hc : c < 700) : res oh S P V (1, c, W, G) = res oh S P V (0, c + 1, 8 :: W, G) := by
  refine res_in ?_ ?_
  · unfold stp; dsimp only; rw [if_neg (by decide), if_neg h7, if_neg h8, if_pos hs]
  · unfold mu; simp only [List.length_cons]; omega
theorem r_pushO (h7 : topW W ≠ 7) (h8 : topW W ≠ 8) (h9 : topW W ≠ 9) (hs : S c = 27) (hc : c < 700) : res oh S P V (1, c, W, G) = res oh S P V (0, c + 1, 9 :: W, G) := by
  refine res_in ?_ ?_
  · unfold stp; dsimp only; rw [if_neg (by decide), if_neg h7, if_neg h8, if_neg (by omega), if_pos hs, if_neg h9]
  · unfold mu; simp only [List.length_cons]; omega
theorem r_or (hs : S c = 27 ∨ (S c = 10 ∧ 10 ∈ W) ∨ (S c = 0 ∧ 10 ∉ W)) : res oh S P V (1, c, 9 :: W, b :: a :: G) = res oh S P V (1, c, W, bin 9 a b :: G) := by
  refine res_in ?_ ?_
  · unfold stp; dsimp only
    rw [if_neg (by decide), if_neg (by show ¬ ((9 : Int) = 7); decide), if_neg (by show ¬ ((9 : Int) = 8); decide), if_neg (by omega)]
    by_cases q : S c = 27
    · rw [if_pos q, if_pos (show topW (9 :: W) = 9 from rfl)]; rfl
    · rw [if_neg q]
      have q2 := hs.resolve_left q
      rw [if_pos (by
        rcases q2 with z | z
        · exact Or.inl ⟨z.1, List.mem_cons_of_mem _ z.2⟩
        · exact Or.inr ⟨z.1, fun y => z.2 ((List.mem_cons.mp y).resolve_left (by decide))⟩), if_pos (show topW (9 :: W) = 9 from rfl)]; rfl
  · unfold mu; simp only [List.length_cons]; omega
theorem r_pop (hs : S c = 10) (hc : c < 700) : res oh S P V (1, c, 10 :: W, G) = res oh S P V (1, c + 1, W, G) := by
  refine res_in ?_ ?_
  · unfold stp; dsimp only
    rw [if_neg (by decide), if_neg (by show ¬ ((10 : Int) = 7); decide), if_neg (by show ¬ ((10 : Int) = 8); decide), if_neg (by omega), if_neg (by omega), if_pos (Or.inl ⟨hs, List.mem_cons_self⟩), if_neg (by show ¬ ((10 : Int) = 9); decide), if_pos hs]; rfl
  · unfold mu; simp only [List.length_cons]; omega
theorem r_end (hs : S c = 0) : res oh S P V (1, c, [], g :: G) = .inr g := by
  refine res_out ?_
  unfold stp; dsimp only
  rw [if_neg (by decide), if_neg (by show ¬ ((0 : Int) = 7); decide), if_neg (by show ¬ ((0 : Int) = 8); decide), if_neg (by omega), if_neg (by omega), if_pos (Or.inr ⟨hs, List.not_mem_nil⟩), if_neg (by show ¬ ((0 : Int) = 9); decide), if_neg (by omega)]; rfl
theorem r_bad (h7 : topW W ≠ 7) (h8 : topW W ≠ 8) (h27 : S c ≠ 27) (h28 : S c ≠ 28) (hs : ¬ ((S c = 10 ∧ 10 ∈ W) ∨ (S c = 0 ∧ 10 ∉ W))) : res oh S P V (1, c, W, G) = .inl (1, P c) := by
  refine res_out ?_
  unfold stp; dsimp only
  rw [if_neg (by decide), if_neg h7, if_neg h8, if_neg h28, if_neg h27, if_neg hs]
theorem r_orany (h7 : topW W ≠ 7) (h8 : topW W ≠ 8) (h27 : S c ≠ 27) (h28 : S c ≠ 28) : res oh S P V (1, c, 9 :: W, b :: a :: G) = res oh S P V (1, c, W, bin 9 a b :: G) := by
  by_cases q : (S c = 10 ∧ 10 ∈ W) ∨ (S c = 0 ∧ 10 ∉ W)
  · exact r_or (Or.inr q)
  · rw [r_bad h7 h8 h27 h28 q]
    refine r_bad (by show (9 : Int) ≠ 7; decide) (by show (9 : Int) ≠ 8; decide) h27 h28 (fun z => q ?_)
    rcases z with z | z
    · exact Or.inl ⟨z.1, (List.mem_cons.mp z.2).resolve_left (by decide)⟩
    · exact Or.inr ⟨z.1, fun y => z.2 (List.mem_cons_of_mem _ y)⟩
end QM
theorem opn_7 (W : List Int) : opn (7 :: W) = opn W + 1 := by unfold opn; rw [List.filter_cons_of_pos (by decide)]; rfl
theorem opn_10 (W : List Int) : opn (10 :: W) = opn W + 1 := by unfold opn; rw [List.filter_cons_of_pos (by decide)]; rfl
theorem opn_8 (W : List Int) : opn (8 :: W) = opn W := by unfold opn; rw [List.filter_cons_of_neg (by decide)]
theorem opn_9 (W : List Int) : opn (9 :: W) = opn W := by unfold opn; rw [List.filter_cons_of_neg (by decide)]
/-- what is known is yes or no, and by the fields alone -/
def QG (oh : Int) (g : Ex) : Prop := (∀ φ, g φ = 0 ∨ g φ = 1) ∧ ∀ φ ψ : Nat → Int, (∀ j : Nat, (j : Int) < (if oh = 1 then 5 else 6) → φ j = ψ j) → g φ = g ψ
def QD (oh : Int) (g : Ex) : Prop := ∀ φ ψ : Nat → Int, (∀ j : Nat, (j : Int) < (if oh = 1 then 5 else 6) → φ j = ψ j) → g φ = g ψ
theorem QG.nt {oh : Int} {g : Ex} (h : QG oh g) : QG oh (nt g) := by
  refine ⟨fun φ => ?_, fun φ ψ e => ?_⟩
  · show 1 - g φ = 0 ∨ 1 - g φ = 1
    rcases h.1 φ with q | q <;> omega
  · show 1 - g φ = 1 - g ψ
    rw [h.2 φ ψ e]
theorem QD.bin {oh o : Int} {a b : Ex} (ha : QD oh a) (hb : QD oh b) : QD oh (bin o a b) := fun φ ψ e => by
  show jn o (a φ) (b φ) = jn o (a ψ) (b ψ)
  rw [ha φ ψ e, hb φ ψ e]
theorem jn_bool {o : Int} (a b : Int) (h : o ≠ 2 ∧ o ≠ 3) : jn o a b = 0 ∨ jn o a b = 1 := by
  unfold jn
  rw [if_neg h.1, if_neg h.2]
  repeat' split
  all_goals first | exact Or.inl rfl | exact Or.inr rfl
theorem QG.bin {oh o : Int} {a b : Ex} (ha : QD oh a) (hb : QD oh b) (h : o ≠ 2 ∧ o ≠ 3) : QG oh (bin o a b) := ⟨fun φ => jn_bool _ _ h, QD.bin ha hb⟩
theorem valF_qd {oh : Int} {S P V : Nat → Int} {c : Nat} {g : Ex} (ho : oh = 0 ∨ oh = 1) (hs : 0 ≤ S c ∧ S c < 41) (h : valF oh S P V c = .inr g) : QD oh g := by
  unfold valF at h
  split at h
  · cases h; exact fun φ ψ _ => rfl
  · split at h
    · cases h
      intro φ ψ e
      have b := FI_bd ho hs.1 hs.2
      refine e _ ?_
      rcases ho with z | z <;> subst z
      · rw [if_neg (by decide)]; omega
      · rw [if_pos rfl]; have := b.2.2.1 rfl; omega
    · cases h

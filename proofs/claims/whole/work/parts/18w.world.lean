/-! the start: two new objects and the row of one long -/
theorem iL_0 : iL 0 = 0 := by decide +kernel
def hi0 (p k : Nat) : Int := if p = 0 then (if k = 11 then -1 else 0) else if p = 31 then -1 else if p = 34 then (if k = 1 then 22 else 0) else if p = 35 then (if k = 2 then 23 else 0) else 0
theorem hi0_rg : RG hi0 := by
  have h : ∀ i k, -1 ≤ hi0 i k ∧ hi0 i k ≤ 23 := by
    intro i k
    unfold hi0
    repeat' split
    all_goals decide
  exact ⟨fun i k => ⟨by have := h i k; omega, by have := h i k; omega⟩, fun i k _ _ => ⟨by have := h i k; omega, by have := h i k; omega⟩⟩
theorem Stc.ad {ad ad0 : Nat → Nat} {A : Nat → Prop} {s : State} {H : Heap} (e : ∀ n, 100 ≤ n → ad n = ad0 n) (h : Stc ad0 A s H) : Stc ad A s H := by
  have e1 : ∀ i, ad (100 + i) = ad0 (100 + i) := fun i => e _ (by omega)
  have e2 : ∀ i, ad (200 + i) = ad0 (200 + i) := fun i => e _ (by omega)
  have e3 : ∀ i, ad (300 + i) = ad0 (300 + i) := fun i => e _ (by omega)
  have e4 := e 400 (by decide)
  have e5 := e 402 (by decide)
  unfold Stc at h ⊢
  simp only [e1, e2, e3, e4, e5]
  exact h
theorem Ldc.ad {ad ad0 : Nat → Nat} {s : State} (e : ∀ n, 100 ≤ n → ad n = ad0 n) (h : Ldc ad0 s) : Ldc ad s := by
  unfold Ldc at h ⊢
  rw [e 241 (by decide), e 242 (by decide), e 243 (by decide), e 244 (by decide), e 245 (by decide)]
  exact h
/-- one cell, told in two ways -/
def ceq (e e2 : va_E) : Prop := e = e2 ∨ ∃ (c : ClassId) (n : Nat) (f g : Nat → Option Nat), e = .inl (c, n, .inr (.inr (.inr (.inr f)))) ∧ e2 = .inl (c, n, .inr (.inr (.inr (.inr g)))) ∧ ∀ j, j < n → f j = g j
theorem arrV_congr {c : ClassId} {n : Nat} {f g : Nat → Value} (h : ∀ j, j < n → f j = g j) : arrV c n f = arrV c n g := by
  have e : Array.ofFn (n := n) (fun j => f j) = Array.ofFn (n := n) (fun j => g j) := congrArg _ (funext fun j => h j j.2)
  show ({ cls := c, slots := Array.ofFn (n := n) fun j => f j, vm := .none } : Cell) = { cls := c, slots := Array.ofFn (n := n) fun j => g j, vm := .none }
  rw [e]
theorem wld_of {D : va_G} {cy : Nat → ClassId} {A : Nat → Prop} {ad : Nat → Nat} {hi : HI} {H : Heap} {ws : va_W} (h : ∀ k, k < 55 → ∃ e, ws[k]? = some (ad k, e) ∧ ceq e (cellOf ad cy (hi k) (sh k))) (hP : va_P D vwCl ws H) (hD : va_D A ws) : va_P D vwCl (wld ad cy hi) H ∧ va_D A (wld ad cy hi) := by
  have at_ : ∀ (k : Nat) (q : Nat × va_E), (wld ad cy hi)[k]? = some q → k < 55 ∧ q = (ad k, cellOf ad cy (hi k) (sh k)) := fun k q hq => by
    have hk : k < 55 := by have := (List.getElem?_eq_some_iff.mp hq).1; rwa [wld_len] at this
    rw [wld_at hk] at hq
    exact ⟨hk, (Option.some.inj hq).symm⟩
  refine ⟨fun k q hq => ?_, fun i j p q hi9 hj9 hpq => ?_, fun k q hq => ?_⟩
  · obtain ⟨hk, rfl⟩ := at_ k q hq
    obtain ⟨e, h1, h2⟩ := h k hk
    have hp := hP k _ h1
    rcases h2 with h2 | ⟨c, n, f, g, h3, h4, h5⟩
    · rw [← h2]; exact hp
    · rw [h4]
      rw [h3] at hp
      have e1 : vp_cell c (n, .inr (.inr (.inr (.inr f)))) = vp_cell c (n, .inr (.inr (.inr (.inr g)))) := (vp_cell_q c n f).trans ((arrV_congr (fun j hj => by rw [h5 j hj])).trans (vp_cell_q c n g).symm)
      show H[ad k]? = some (vp_cell c (n, .inr (.inr (.inr (.inr g)))))
      rw [← e1]; exact hp
  · obtain ⟨hk, rfl⟩ := at_ i p hi9
    obtain ⟨hj, rfl⟩ := at_ j q hj9
    obtain ⟨e, h1, -⟩ := h i hk
    obtain ⟨e2, h2, -⟩ := h j hj
    exact hD.1 i j _ _ h1 h2 hpq
  · obtain ⟨hk, rfl⟩ := at_ k q hq
    obtain ⟨e, h1, -⟩ := h k hk
    exact hD.2 k (ad k, e) h1
set_option maxHeartbeats 4000000 in
set_option maxRecDepth 100000 in
theorem law_wld {cy : Nat → ClassId} {ad0 : Nat → Nat} {qx : Nat} {xq1 : Nat} {xq2 : Nat} {xq3 : Nat} {xq4 : Nat} {xr5 : Nat → Nat} {xq6 : Nat} {xr7 : Nat → Nat} {xq8 : Nat} {xq9 : Nat} {xq10 : Nat} {xq11 : Nat} {xq12 : Nat} {xq13 : Nat} {xq14 : Nat} {xq15 : Nat} {xq16 : Nat} {xq17 : Nat} {xq18 : Nat} {qm : Nat} {mq1 : Nat} {mq2 : Nat} {mq3 : Nat} {mq4 : Nat} {mq5 : Nat} {mq6 : Nat} {mq7 : Nat} {mq8 : Nat} {mq9 : Nat} {mq10 : Nat} {mq11 : Nat} {mq12 : Nat} {mq13 : Nat} {mq14 : Nat} {q54 : Nat} : ∀ k, k < 55 → ∃ e, (([] : va_W) ++ ((((qx, .inr (6, [.ref xq1, .ref xq3, .ref xq6, .ref xq8, .ref xq9, .ref xq14, .ref xq15, .ref xq17, .int (iI 0), .int (iI 0), .int (iI 0), .int (iI (-1)), .int (iI 0)])) :: ((((((((([] : va_W) ++ ((xq1, .inr (1, [.ref xq2])) :: (([] : va_W) ++ [(xq2, .inl (cy 0, 162, .inl (fun _ => iI 0)))]))) ++ ((xq3, .inr (3, [.ref xq4, .int (iI 0), .int (iI 0)])) :: (([] : va_W) ++ ((xq4, .inl (cy 3, 20, .inr (.inr (.inr (.inr (fun i => if i < 20 then some (xr5 i) else none)))))) :: (List.range 20).map (fun i => (xr5 i, .inl (cy 0, 162, .inl (fun _ => iI 0)))))))) ++ ((xq6, .inl (cy 3, 2, .inr (.inr (.inr (.inr (fun i => if i < 2 then some (xr7 i) else none)))))) :: (List.range 2).map (fun i => (xr7 i, .inl (cy 0, 162, .inl (fun _ => iI 0)))))) ++ [(xq8, .inl (cy 1, 2, .inl (fun _ => iI 0)))]) ++ ((xq9, .inr (5, [.ref xq10, .int (iI 0), .ref xq11, .ref xq12, .ref xq13, .int (iI 0), .int (iI 0), .int (iI 0), .int (iI 0)])) :: ((((([] : va_W) ++ [(xq10, .inl (cy 0, 600, .inl (fun _ => iI 0)))]) ++ [(xq11, .inl (cy 4, 601, .inr (.inr (.inr (.inr (fun _ => none))))))]) ++ [(xq12, .inl (cy 0, 601, .inl (fun _ => iI 0)))]) ++ [(xq13, .inl (cy 0, 601, .inl (fun _ => iI 0)))]))) ++ ((xq14, .inr (0, [.ref xq9, .ref (ad0 122), .int (iI 0), .int (iI 0), .int (iI 0), .int (iI 0)])) :: ([] : va_W))) ++ ((xq15, .inr (4, [.ref xq9, .ref xq16, .ref (ad0 123), .int (iI 0), .int (iI 0)])) :: (([] : va_W) ++ [(xq16, .inl (cy 0, 6, .inl (fun _ => iI 0)))]))) ++ ((xq17, .inr (2, [.ref xq18, .int (iI 0)])) :: (([] : va_W) ++ [(xq18, .inl (cy 0, 1280, .inl (fun _ => iI 0)))])))) ++ ((qm, .inr (7, [.int (iI 0), .ref mq1, .ref mq2, .ref mq3, .ref mq4, .ref mq5, .int (iI 0), .ref mq6, .int (iI 0), .int (iI 0), .int (iI 0), .int (iI 0), .int (iI 0), .int (iI 0), .long (iL 0), .int (iI 0), .int (iI 0), .int (iI 0), .ref mq7, .ref mq8, .int (iI 0), .int (iI 0), .ref mq9, .ref mq10, .int (iI 0), .ref mq11, .int (iI 0), .int (iI 0), .int (iI 0), .ref mq12, .ref mq13, .ref mq14, .int (iI 0)])) :: ((((((((((((((([] : va_W) ++ [(mq1, .inl (cy 0, 166, .inl (fun _ => iI 0)))]) ++ [(mq2, .inl (cy 0, 166, .inl (fun _ => iI 0)))]) ++ [(mq3, .inl (cy 0, 3320, .inl (fun _ => iI 0)))]) ++ [(mq4, .inl (cy 0, 332, .inl (fun _ => iI 0)))]) ++ [(mq5, .inl (cy 1, 2, .inl (fun _ => iI 0)))]) ++ [(mq6, .inl (cy 2, 600, .inl (fun _ => iI 0)))]) ++ [(mq7, .inl (cy 0, 200, .inl (fun _ => iI 0)))]) ++ [(mq8, .inl (cy 0, 800, .inl (fun _ => iI 0)))]) ++ [(mq9, .inl (cy 0, 4, .inl (fun _ => iI 0)))]) ++ [(mq10, .inl (cy 0, 700, .inl (fun _ => iI 0)))]) ++ [(mq11, .inl (cy 0, 700, .inl (fun _ => iI 0)))]) ++ [(mq12, .inl (cy 0, 6, .inl (fun _ => iI 0)))]) ++ [(mq13, .inl (cy 0, 700, .inl (fun _ => iI 0)))]) ++ [(mq14, .inl (cy 0, 1300, .inl (fun _ => iI 0)))]))) ++ [(q54, .inl (cy 5, 1, .inr (.inl (fun _ => iL 0))))]))[k]? = some ((([qx, xq1, xq2, xq3, xq4, (xr5 0), (xr5 1), (xr5 2), (xr5 3), (xr5 4), (xr5 5), (xr5 6), (xr5 7), (xr5 8), (xr5 9), (xr5 10), (xr5 11), (xr5 12), (xr5 13), (xr5 14), (xr5 15), (xr5 16), (xr5 17), (xr5 18), (xr5 19), xq6, (xr7 0), (xr7 1), xq8, xq9, xq10, xq11, xq12, xq13, xq14, xq15, xq16, xq17, xq18, qm, mq1, mq2, mq3, mq4, mq5, mq6, mq7, mq8, mq9, mq10, mq11, mq12, mq13, mq14, q54] : List Nat)).getD k (ad0 k), e) ∧ ceq e (cellOf (fun n => (([qx, xq1, xq2, xq3, xq4, (xr5 0), (xr5 1), (xr5 2), (xr5 3), (xr5 4), (xr5 5), (xr5 6), (xr5 7), (xr5 8), (xr5 9), (xr5 10), (xr5 11), (xr5 12), (xr5 13), (xr5 14), (xr5 15), (xr5 16), (xr5 17), (xr5 18), (xr5 19), xq6, (xr7 0), (xr7 1), xq8, xq9, xq10, xq11, xq12, xq13, xq14, xq15, xq16, xq17, xq18, qm, mq1, mq2, mq3, mq4, mq5, mq6, mq7, mq8, mq9, mq10, mq11, mq12, mq13, mq14, q54] : List Nat)).getD n (ad0 n)) cy (hi0 k) (sh k)) := fun k hk => by
  match k, hk with
  | 0, _ => exact ⟨_, rfl, Or.inl rfl⟩
  | 1, _ => exact ⟨_, rfl, Or.inl rfl⟩
  | 2, _ => exact ⟨_, rfl, Or.inl rfl⟩
  | 3, _ => exact ⟨_, rfl, Or.inl rfl⟩
  | 4, _ => exact ⟨_, rfl, Or.inr ⟨_, _, _, _, rfl, rfl, fun j hj => by
    match j, hj with
    | 0, _ => rfl
    | 1, _ => rfl
    | 2, _ => rfl
    | 3, _ => rfl
    | 4, _ => rfl
    | 5, _ => rfl
    | 6, _ => rfl
    | 7, _ => rfl
    | 8, _ => rfl
    | 9, _ => rfl
    | 10, _ => rfl
    | 11, _ => rfl
    | 12, _ => rfl
    | 13, _ => rfl
    | 14, _ => rfl
    | 15, _ => rfl
    | 16, _ => rfl
    | 17, _ => rfl
    | 18, _ => rfl
    | 19, _ => rfl
    | j + 20, h => exact absurd h (by omega)⟩⟩
  | 5, _ => exact ⟨_, rfl, Or.inl rfl⟩
  | 6, _ => exact ⟨_, rfl, Or.inl rfl⟩
  | 7, _ => exact ⟨_, rfl, Or.inl rfl⟩
  | 8, _ => exact ⟨_, rfl, Or.inl rfl⟩
  | 9, _ => exact ⟨_, rfl, Or.inl rfl⟩
  | 10, _ => exact ⟨_, rfl, Or.inl rfl⟩
  | 11, _ => exact ⟨_, rfl, Or.inl rfl⟩
  | 12, _ => exact ⟨_, rfl, Or.inl rfl⟩
  | 13, _ => exact ⟨_, rfl, Or.inl rfl⟩
  | 14, _ => exact ⟨_, rfl, Or.inl rfl⟩
  | 15, _ => exact ⟨_, rfl, Or.inl rfl⟩
  | 16, _ => exact ⟨_, rfl, Or.inl rfl⟩
  | 17, _ => exact ⟨_, rfl, Or.inl rfl⟩
  | 18, _ => exact ⟨_, rfl, Or.inl rfl⟩
  | 19, _ => exact ⟨_, rfl, Or.inl rfl⟩
  | 20, _ => exact ⟨_, rfl, Or.inl rfl⟩
  | 21, _ => exact ⟨_, rfl, Or.inl rfl⟩
  | 22, _ => exact ⟨_, rfl, Or.inl rfl⟩
  | 23, _ => exact ⟨_, rfl, Or.inl rfl⟩
  | 24, _ => exact ⟨_, rfl, Or.inl rfl⟩
  | 25, _ => exact ⟨_, rfl, Or.inr ⟨_, _, _, _, rfl, rfl, fun j hj => by
    match j, hj with
    | 0, _ => rfl
    | 1, _ => rfl
    | j + 2, h => exact absurd h (by omega)⟩⟩
  | 26, _ => exact ⟨_, rfl, Or.inl rfl⟩
  | 27, _ => exact ⟨_, rfl, Or.inl rfl⟩
  | 28, _ => exact ⟨_, rfl, Or.inl rfl⟩
  | 29, _ => exact ⟨_, rfl, Or.inl rfl⟩
  | 30, _ => exact ⟨_, rfl, Or.inl rfl⟩
  | 31, _ => exact ⟨_, rfl, Or.inl rfl⟩
  | 32, _ => exact ⟨_, rfl, Or.inl rfl⟩
  | 33, _ => exact ⟨_, rfl, Or.inl rfl⟩
  | 34, _ => exact ⟨_, rfl, Or.inl rfl⟩
  | 35, _ => exact ⟨_, rfl, Or.inl rfl⟩
  | 36, _ => exact ⟨_, rfl, Or.inl rfl⟩
  | 37, _ => exact ⟨_, rfl, Or.inl rfl⟩
  | 38, _ => exact ⟨_, rfl, Or.inl rfl⟩
  | 39, _ => exact ⟨_, rfl, Or.inl rfl⟩
  | 40, _ => exact ⟨_, rfl, Or.inl rfl⟩
  | 41, _ => exact ⟨_, rfl, Or.inl rfl⟩
  | 42, _ => exact ⟨_, rfl, Or.inl rfl⟩
  | 43, _ => exact ⟨_, rfl, Or.inl rfl⟩
  | 44, _ => exact ⟨_, rfl, Or.inl rfl⟩
  | 45, _ => exact ⟨_, rfl, Or.inl rfl⟩
  | 46, _ => exact ⟨_, rfl, Or.inl rfl⟩
  | 47, _ => exact ⟨_, rfl, Or.inl rfl⟩
  | 48, _ => exact ⟨_, rfl, Or.inl rfl⟩
  | 49, _ => exact ⟨_, rfl, Or.inl rfl⟩
  | 50, _ => exact ⟨_, rfl, Or.inl rfl⟩
  | 51, _ => exact ⟨_, rfl, Or.inl rfl⟩
  | 52, _ => exact ⟨_, rfl, Or.inl rfl⟩
  | 53, _ => exact ⟨_, rfl, Or.inl rfl⟩
  | 54, _ => exact ⟨_, rfl, Or.inl rfl⟩
  | k + 55, h => exact absurd h (by omega)

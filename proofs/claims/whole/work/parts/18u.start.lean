/-! what the Statement gives of the start -/
def sgW : List Nat := [161, 161, 161, 161, 170, 173, 176, 179, 182, 185, 188, 191, 194, 197, 200, 203, 206, 209, 212, 215, 218, 221, 224, 227, 230, 233, 236, 239, 242, 245, 248, 251, 254, 257, 260, 263, 266, 269, 272, 275, 278]
def strT (i : Nat) : Term := if i < 41 then .string "LateSet$Sign" (sgW.getD i 0) else .string "LateSet" (([315, 321, 323, 325, 327] : List Nat).getD (i - 41) 0)
theorem pl {args : Array Value} {s : State} {a b : Cond} (h : (Jvm.Cond.and a b).before args s = true) : a.before args s = true := by rw [Cond.before_and, Bool.and_eq_true] at h; exact h.1
theorem pr {args : Array Value} {s : State} {a b : Cond} (h : (Jvm.Cond.and a b).before args s = true) : b.before args s = true := by rw [Cond.before_and, Bool.and_eq_true] at h; exact h.2
theorem px_ex {args : Array Value} {s : State} (h : (Jvm.Cond.and given_1 narrow_1).before args s = true) : ∀ i, i < 41 → (Cond.exactly (.static "LateSet$Sign" (sgN.getD i "") "LLateSet$Sign;") "LateSet$Sign").before args s = true := fun i hi => by
  match i, hi with
  | 0, _ => exact (pl (pl (pr (pl (pl (pl (pr (pl (pl (pr h))))))))))
  | 1, _ => exact (pr (pr (pl (pr (pl (pl (pl (pl (pl (pr h))))))))))
  | 2, _ => exact (pr (pr (pr (pr (pr (pl (pl (pl (pl (pl (pr h)))))))))))
  | 3, _ => exact (pr (pr (pr (pr (pr (pr (pr (pl (pl (pl (pr h)))))))))))
  | 4, _ => exact (pl (pr (pr (pr (pl (pr (pl (pl (pr (pl (pr h)))))))))))
  | 5, _ => exact (pl (pr (pr (pr (pl (pl (pr (pr (pl (pl (pr h)))))))))))
  | 6, _ => exact (pl (pr (pr (pl (pr (pr (pl (pl (pr (pl (pr h)))))))))))
  | 7, _ => exact (pl (pr (pr (pr (pr (pr (pl (pl (pr (pl (pr h)))))))))))
  | 8, _ => exact (pr (pr (pl (pl (pl (pr (pl (pr (pl (pr h))))))))))
  | 9, _ => exact (pl (pr (pl (pl (pr (pl (pl (pr (pl (pr h))))))))))
  | 10, _ => exact (pr (pr (pr (pr (pl (pl (pr (pl (pr (pl (pr h)))))))))))
  | 11, _ => exact (pl (pl (pr (pr (pr (pr (pr (pl (pl (pr h))))))))))
  | 12, _ => exact (pr (pl (pr (pr (pl (pl (pr (pl (pl (pr h))))))))))
  | 13, _ => exact (pl (pr (pr (pl (pr (pl (pr (pl (pl (pr h))))))))))
  | 14, _ => exact (pl (pr (pl (pr (pr (pl (pr (pl (pl (pr h))))))))))
  | 15, _ => exact (pr (pr (pr (pr (pr (pl (pr (pr (pl (pl (pr h)))))))))))
  | 16, _ => exact (pl (pl (pr (pl (pr (pr (pr (pl (pl (pr h))))))))))
  | 17, _ => exact (pl (pl (pl (pr (pr (pr (pr (pl (pl (pr h))))))))))
  | 18, _ => exact (pl (pr (pr (pr (pr (pl (pr (pl (pl (pr h))))))))))
  | 19, _ => exact (pl (pr (pl (pl (pl (pr (pr (pl (pl (pr h))))))))))
  | 20, _ => exact (pr (pr (pl (pr (pl (pr (pr (pl (pl (pr h))))))))))
  | 21, _ => exact (pl (pl (pl (pr (pl (pl (pr (pl (pl (pr h))))))))))
  | 22, _ => exact (pl (pr (pl (pl (pl (pl (pl (pl (pl (pr h))))))))))
  | 23, _ => exact (pl (pr (pr (pr (pl (pl (pl (pl (pl (pl (pr h)))))))))))
  | 24, _ => exact (pl (pl (pl (pl (pl (pl (pl (pr (pl (pr h))))))))))
  | 25, _ => exact (pr (pl (pr (pl (pl (pl (pl (pr (pl (pr h))))))))))
  | 26, _ => exact (pr (pl (pl (pr (pl (pl (pl (pr (pl (pr h))))))))))
  | 27, _ => exact (pl (pl (pl (pl (pr (pr (pl (pr (pl (pr h))))))))))
  | 28, _ => exact (pl (pl (pr (pr (pl (pr (pl (pr (pl (pr h))))))))))
  | 29, _ => exact (pl (pr (pr (pr (pl (pl (pl (pr (pl (pr h))))))))))
  | 30, _ => exact (pl (pr (pr (pr (pl (pr (pr (pl (pr (pl (pr h)))))))))))
  | 31, _ => exact (pl (pr (pr (pl (pr (pr (pr (pl (pr (pl (pr h)))))))))))
  | 32, _ => exact (pl (pr (pr (pr (pr (pr (pr (pl (pr (pl (pr h)))))))))))
  | 33, _ => exact (pr (pr (pl (pl (pl (pl (pr (pr (pl (pr h))))))))))
  | 34, _ => exact (pr (pl (pl (pl (pr (pl (pr (pl (pl (pr h))))))))))
  | 35, _ => exact (pr (pr (pr (pr (pl (pl (pl (pr (pr (pl (pr h)))))))))))
  | 36, _ => exact (pl (pl (pr (pr (pl (pl (pr (pr (pl (pr h))))))))))
  | 37, _ => exact (pl (pl (pl (pl (pr (pl (pr (pr (pl (pr h))))))))))
  | 38, _ => exact (pr (pl (pr (pl (pr (pl (pr (pr (pl (pr h))))))))))
  | 39, _ => exact (pr (pl (pl (pr (pr (pl (pr (pr (pl (pr h))))))))))
  | 40, _ => exact (pr (pl (pr (pr (pr (pl (pr (pr (pl (pr h))))))))))
  | k + 41, h3 => exact absurd h3 (by omega)
theorem px_od {args : Array Value} {s : State} (h : (Jvm.Cond.and given_1 narrow_1).before args s = true) : ∀ i, i < 41 → (Cond.eq (.field (.static "LateSet$Sign" (sgN.getD i "") "LLateSet$Sign;") "java/lang/Enum" "ordinal" "I") (.int (Int32.ofNat i))).before args s = true := fun i hi => by
  match i, hi with
  | 0, _ => exact (pr (pl (pr (pl (pl (pl (pr (pl (pl (pr h))))))))))
  | 1, _ => exact (pl (pl (pr (pr (pl (pl (pl (pl (pl (pr h))))))))))
  | 2, _ => exact (pl (pl (pl (pl (pr (pl (pl (pl (pl (pr h))))))))))
  | 3, _ => exact (pl (pl (pl (pl (pl (pl (pr (pl (pl (pr h))))))))))
  | 4, _ => exact (pr (pr (pr (pr (pl (pr (pl (pl (pr (pl (pr h)))))))))))
  | 5, _ => exact (pr (pr (pr (pr (pl (pl (pr (pr (pl (pl (pr h)))))))))))
  | 6, _ => exact (pr (pr (pr (pl (pr (pr (pl (pl (pr (pl (pr h)))))))))))
  | 7, _ => exact (pr (pr (pr (pr (pr (pr (pl (pl (pr (pl (pr h)))))))))))
  | 8, _ => exact (pl (pl (pr (pl (pl (pr (pl (pr (pl (pr h))))))))))
  | 9, _ => exact (pr (pr (pl (pl (pr (pl (pl (pr (pl (pr h))))))))))
  | 10, _ => exact (pl (pl (pl (pr (pl (pr (pl (pr (pl (pr h))))))))))
  | 11, _ => exact (pr (pl (pr (pr (pr (pr (pr (pl (pl (pr h))))))))))
  | 12, _ => exact (pl (pr (pr (pr (pl (pl (pr (pl (pl (pr h))))))))))
  | 13, _ => exact (pl (pr (pr (pr (pl (pr (pl (pr (pl (pl (pr h)))))))))))
  | 14, _ => exact (pl (pr (pr (pl (pr (pr (pl (pr (pl (pl (pr h)))))))))))
  | 15, _ => exact (pl (pl (pl (pl (pr (pr (pr (pl (pl (pr h))))))))))
  | 16, _ => exact (pr (pl (pr (pl (pr (pr (pr (pl (pl (pr h))))))))))
  | 17, _ => exact (pr (pl (pl (pr (pr (pr (pr (pl (pl (pr h))))))))))
  | 18, _ => exact (pl (pr (pr (pr (pr (pr (pl (pr (pl (pl (pr h)))))))))))
  | 19, _ => exact (pr (pr (pl (pl (pl (pr (pr (pl (pl (pr h))))))))))
  | 20, _ => exact (pl (pl (pr (pr (pl (pr (pr (pl (pl (pr h))))))))))
  | 21, _ => exact (pr (pl (pl (pr (pl (pl (pr (pl (pl (pr h))))))))))
  | 22, _ => exact (pr (pr (pl (pl (pl (pl (pl (pl (pl (pr h))))))))))
  | 23, _ => exact (pr (pr (pr (pr (pl (pl (pl (pl (pl (pl (pr h)))))))))))
  | 24, _ => exact (pr (pl (pl (pl (pl (pl (pl (pr (pl (pr h))))))))))
  | 25, _ => exact (pl (pr (pr (pl (pl (pl (pl (pr (pl (pr h))))))))))
  | 26, _ => exact (pl (pr (pl (pr (pl (pl (pl (pr (pl (pr h))))))))))
  | 27, _ => exact (pr (pl (pl (pl (pr (pr (pl (pr (pl (pr h))))))))))
  | 28, _ => exact (pr (pl (pr (pr (pl (pr (pl (pr (pl (pr h))))))))))
  | 29, _ => exact (pl (pr (pr (pr (pr (pl (pl (pl (pr (pl (pr h)))))))))))
  | 30, _ => exact (pr (pr (pr (pr (pl (pr (pr (pl (pr (pl (pr h)))))))))))
  | 31, _ => exact (pr (pr (pr (pl (pr (pr (pr (pl (pr (pl (pr h)))))))))))
  | 32, _ => exact (pr (pr (pr (pr (pr (pr (pr (pl (pr (pl (pr h)))))))))))
  | 33, _ => exact (pl (pl (pr (pl (pl (pl (pr (pr (pl (pr h))))))))))
  | 34, _ => exact (pl (pr (pl (pl (pr (pl (pr (pl (pl (pr h))))))))))
  | 35, _ => exact (pl (pl (pl (pr (pl (pl (pr (pr (pl (pr h))))))))))
  | 36, _ => exact (pr (pl (pr (pr (pl (pl (pr (pr (pl (pr h))))))))))
  | 37, _ => exact (pr (pl (pl (pl (pr (pl (pr (pr (pl (pr h))))))))))
  | 38, _ => exact (pl (pr (pr (pl (pr (pl (pr (pr (pl (pr h))))))))))
  | 39, _ => exact (pl (pr (pl (pr (pr (pl (pr (pr (pl (pr h))))))))))
  | 40, _ => exact (pl (pr (pr (pr (pr (pl (pr (pr (pl (pr h))))))))))
  | k + 41, h3 => exact absurd h3 (by omega)
theorem px_wd {args : Array Value} {s : State} (h : (Jvm.Cond.and given_1 narrow_1).before args s = true) : ∀ i, i < 41 → (Cond.eq (.field (.static "LateSet$Sign" (sgN.getD i "") "LLateSet$Sign;") "LateSet$Sign" "word" "Ljava/lang/String;") (strT i)).before args s = true := fun i hi => by
  match i, hi with
  | 0, _ => exact (pl (pr (pr (pl (pl (pl (pr (pl (pl (pr h))))))))))
  | 1, _ => exact (pr (pl (pr (pr (pl (pl (pl (pl (pl (pr h))))))))))
  | 2, _ => exact (pr (pl (pl (pl (pr (pl (pl (pl (pl (pr h))))))))))
  | 3, _ => exact (pr (pl (pl (pl (pl (pl (pr (pl (pl (pr h))))))))))
  | 4, _ => exact (pl (pl (pl (pr (pr (pl (pl (pr (pl (pr h))))))))))
  | 5, _ => exact (pl (pl (pl (pr (pl (pr (pr (pl (pl (pr h))))))))))
  | 6, _ => exact (pl (pl (pr (pr (pr (pl (pl (pr (pl (pr h))))))))))
  | 7, _ => exact (pl (pl (pl (pl (pl (pr (pl (pr (pl (pr h))))))))))
  | 8, _ => exact (pr (pl (pr (pl (pl (pr (pl (pr (pl (pr h))))))))))
  | 9, _ => exact (pl (pl (pr (pl (pr (pl (pl (pr (pl (pr h))))))))))
  | 10, _ => exact (pr (pl (pl (pr (pl (pr (pl (pr (pl (pr h))))))))))
  | 11, _ => exact (pl (pr (pr (pr (pr (pr (pr (pl (pl (pr h))))))))))
  | 12, _ => exact (pl (pr (pr (pr (pr (pl (pl (pr (pl (pl (pr h)))))))))))
  | 13, _ => exact (pr (pr (pr (pr (pl (pr (pl (pr (pl (pl (pr h)))))))))))
  | 14, _ => exact (pr (pr (pr (pl (pr (pr (pl (pr (pl (pl (pr h)))))))))))
  | 15, _ => exact (pr (pl (pl (pl (pr (pr (pr (pl (pl (pr h))))))))))
  | 16, _ => exact (pl (pr (pr (pl (pr (pr (pr (pl (pl (pr h))))))))))
  | 17, _ => exact (pl (pr (pl (pr (pr (pr (pr (pl (pl (pr h))))))))))
  | 18, _ => exact (pr (pr (pr (pr (pr (pr (pl (pr (pl (pl (pr h)))))))))))
  | 19, _ => exact (pl (pl (pr (pl (pl (pr (pr (pl (pl (pr h))))))))))
  | 20, _ => exact (pr (pl (pr (pr (pl (pr (pr (pl (pl (pr h))))))))))
  | 21, _ => exact (pl (pr (pl (pr (pl (pl (pr (pl (pl (pr h))))))))))
  | 22, _ => exact (pl (pl (pr (pl (pl (pl (pl (pl (pl (pr h))))))))))
  | 23, _ => exact (pl (pl (pl (pr (pl (pl (pl (pl (pl (pr h))))))))))
  | 24, _ => exact (pl (pr (pl (pl (pl (pl (pl (pr (pl (pr h))))))))))
  | 25, _ => exact (pl (pr (pr (pr (pl (pl (pl (pl (pr (pl (pr h)))))))))))
  | 26, _ => exact (pr (pr (pl (pr (pl (pl (pl (pr (pl (pr h))))))))))
  | 27, _ => exact (pl (pr (pl (pl (pr (pr (pl (pr (pl (pr h))))))))))
  | 28, _ => exact (pl (pr (pr (pr (pl (pr (pl (pr (pl (pr h))))))))))
  | 29, _ => exact (pr (pr (pr (pr (pr (pl (pl (pl (pr (pl (pr h)))))))))))
  | 30, _ => exact (pl (pl (pl (pr (pr (pr (pl (pr (pl (pr h))))))))))
  | 31, _ => exact (pl (pl (pr (pr (pr (pr (pl (pr (pl (pr h))))))))))
  | 32, _ => exact (pl (pl (pl (pl (pl (pl (pr (pr (pl (pr h))))))))))
  | 33, _ => exact (pr (pl (pr (pl (pl (pl (pr (pr (pl (pr h))))))))))
  | 34, _ => exact (pr (pr (pl (pl (pr (pl (pr (pl (pl (pr h))))))))))
  | 35, _ => exact (pr (pl (pl (pr (pl (pl (pr (pr (pl (pr h))))))))))
  | 36, _ => exact (pl (pr (pr (pr (pl (pl (pr (pr (pl (pr h))))))))))
  | 37, _ => exact (pl (pr (pl (pl (pr (pl (pr (pr (pl (pr h))))))))))
  | 38, _ => exact (pl (pr (pr (pr (pl (pr (pl (pr (pr (pl (pr h)))))))))))
  | 39, _ => exact (pl (pr (pr (pl (pr (pr (pl (pr (pr (pl (pr h)))))))))))
  | 40, _ => exact (pl (pr (pr (pr (pr (pr (pl (pr (pr (pl (pr h)))))))))))
  | k + 41, h3 => exact absurd h3 (by omega)
theorem px_lf {args : Array Value} {s : State} (h : (Jvm.Cond.and given_1 narrow_1).before args s = true) : ∀ i, i < 41 → (Cond.eq (.field (.static "LateSet$Sign" (sgN.getD i "") "LLateSet$Sign;") "LateSet$Sign" "lifeField" "I") (.int (iI (sgL.getD i 0)))).before args s = true := fun i hi => by
  match i, hi with
  | 0, _ => exact (pl (pr (pr (pr (pl (pl (pl (pr (pl (pl (pr h)))))))))))
  | 1, _ => exact (pl (pr (pr (pr (pl (pl (pl (pl (pl (pr h))))))))))
  | 2, _ => exact (pl (pr (pl (pl (pr (pl (pl (pl (pl (pr h))))))))))
  | 3, _ => exact (pl (pr (pl (pl (pl (pl (pr (pl (pl (pr h))))))))))
  | 4, _ => exact (pr (pl (pl (pr (pr (pl (pl (pr (pl (pr h))))))))))
  | 5, _ => exact (pr (pl (pl (pr (pl (pr (pr (pl (pl (pr h))))))))))
  | 6, _ => exact (pr (pl (pr (pr (pr (pl (pl (pr (pl (pr h))))))))))
  | 7, _ => exact (pr (pl (pl (pl (pl (pr (pl (pr (pl (pr h))))))))))
  | 8, _ => exact (pl (pr (pr (pl (pl (pr (pl (pr (pl (pr h))))))))))
  | 9, _ => exact (pr (pl (pr (pl (pr (pl (pl (pr (pl (pr h))))))))))
  | 10, _ => exact (pl (pr (pl (pr (pl (pr (pl (pr (pl (pr h))))))))))
  | 11, _ => exact (pl (pr (pr (pr (pr (pr (pr (pr (pl (pl (pr h)))))))))))
  | 12, _ => exact (pr (pr (pr (pr (pr (pl (pl (pr (pl (pl (pr h)))))))))))
  | 13, _ => exact (pl (pl (pl (pr (pr (pl (pr (pl (pl (pr h))))))))))
  | 14, _ => exact (pl (pl (pr (pr (pr (pl (pr (pl (pl (pr h))))))))))
  | 15, _ => exact (pl (pr (pl (pl (pr (pr (pr (pl (pl (pr h))))))))))
  | 16, _ => exact (pl (pr (pr (pr (pl (pr (pr (pr (pl (pl (pr h)))))))))))
  | 17, _ => exact (pl (pr (pr (pl (pr (pr (pr (pr (pl (pl (pr h)))))))))))
  | 18, _ => exact (pl (pl (pl (pl (pl (pr (pr (pl (pl (pr h))))))))))
  | 19, _ => exact (pr (pl (pr (pl (pl (pr (pr (pl (pl (pr h))))))))))
  | 20, _ => exact (pl (pr (pr (pr (pl (pr (pr (pl (pl (pr h))))))))))
  | 21, _ => exact (pr (pr (pl (pr (pl (pl (pr (pl (pl (pr h))))))))))
  | 22, _ => exact (pr (pl (pr (pl (pl (pl (pl (pl (pl (pr h))))))))))
  | 23, _ => exact (pr (pl (pl (pr (pl (pl (pl (pl (pl (pr h))))))))))
  | 24, _ => exact (pr (pr (pl (pl (pl (pl (pl (pr (pl (pr h))))))))))
  | 25, _ => exact (pr (pr (pr (pr (pl (pl (pl (pl (pr (pl (pr h)))))))))))
  | 26, _ => exact (pl (pl (pr (pr (pl (pl (pl (pr (pl (pr h))))))))))
  | 27, _ => exact (pr (pr (pl (pl (pr (pr (pl (pr (pl (pr h))))))))))
  | 28, _ => exact (pl (pr (pr (pr (pr (pl (pr (pl (pr (pl (pr h)))))))))))
  | 29, _ => exact (pl (pl (pl (pl (pr (pl (pl (pr (pl (pr h))))))))))
  | 30, _ => exact (pr (pl (pl (pr (pr (pr (pl (pr (pl (pr h))))))))))
  | 31, _ => exact (pr (pl (pr (pr (pr (pr (pl (pr (pl (pr h))))))))))
  | 32, _ => exact (pr (pl (pl (pl (pl (pl (pr (pr (pl (pr h))))))))))
  | 33, _ => exact (pl (pr (pr (pl (pl (pl (pr (pr (pl (pr h))))))))))
  | 34, _ => exact (pl (pl (pr (pl (pr (pl (pr (pl (pl (pr h))))))))))
  | 35, _ => exact (pl (pr (pl (pr (pl (pl (pr (pr (pl (pr h))))))))))
  | 36, _ => exact (pl (pr (pr (pr (pr (pl (pl (pr (pr (pl (pr h)))))))))))
  | 37, _ => exact (pr (pr (pl (pl (pr (pl (pr (pr (pl (pr h))))))))))
  | 38, _ => exact (pr (pr (pr (pr (pl (pr (pl (pr (pr (pl (pr h)))))))))))
  | 39, _ => exact (pr (pr (pr (pl (pr (pr (pl (pr (pr (pl (pr h)))))))))))
  | 40, _ => exact (pr (pr (pr (pr (pr (pr (pl (pr (pr (pl (pr h)))))))))))
  | k + 41, h3 => exact absurd h3 (by omega)
theorem px_hf {args : Array Value} {s : State} (h : (Jvm.Cond.and given_1 narrow_1).before args s = true) : ∀ i, i < 41 → (Cond.eq (.field (.static "LateSet$Sign" (sgN.getD i "") "LLateSet$Sign;") "LateSet$Sign" "hourField" "I") (.int (iI (sgH.getD i 0)))).before args s = true := fun i hi => by
  match i, hi with
  | 0, _ => exact (pr (pr (pr (pr (pl (pl (pl (pr (pl (pl (pr h)))))))))))
  | 1, _ => exact (pl (pr (pr (pr (pr (pl (pl (pl (pl (pl (pr h)))))))))))
  | 2, _ => exact (pr (pr (pl (pl (pr (pl (pl (pl (pl (pr h))))))))))
  | 3, _ => exact (pr (pr (pl (pl (pl (pl (pr (pl (pl (pr h))))))))))
  | 4, _ => exact (pl (pr (pl (pr (pr (pl (pl (pr (pl (pr h))))))))))
  | 5, _ => exact (pl (pr (pl (pr (pl (pr (pr (pl (pl (pr h))))))))))
  | 6, _ => exact (pl (pr (pr (pr (pr (pl (pl (pr (pl (pr h))))))))))
  | 7, _ => exact (pl (pr (pl (pl (pl (pr (pl (pr (pl (pr h))))))))))
  | 8, _ => exact (pl (pr (pr (pr (pl (pl (pr (pl (pr (pl (pr h)))))))))))
  | 9, _ => exact (pl (pr (pr (pl (pr (pl (pl (pr (pl (pr h))))))))))
  | 10, _ => exact (pr (pr (pl (pr (pl (pr (pl (pr (pl (pr h))))))))))
  | 11, _ => exact (pr (pr (pr (pr (pr (pr (pr (pr (pl (pl (pr h)))))))))))
  | 12, _ => exact (pl (pl (pl (pl (pr (pl (pr (pl (pl (pr h))))))))))
  | 13, _ => exact (pr (pl (pl (pr (pr (pl (pr (pl (pl (pr h))))))))))
  | 14, _ => exact (pr (pl (pr (pr (pr (pl (pr (pl (pl (pr h))))))))))
  | 15, _ => exact (pr (pr (pl (pl (pr (pr (pr (pl (pl (pr h))))))))))
  | 16, _ => exact (pr (pr (pr (pr (pl (pr (pr (pr (pl (pl (pr h)))))))))))
  | 17, _ => exact (pr (pr (pr (pl (pr (pr (pr (pr (pl (pl (pr h)))))))))))
  | 18, _ => exact (pr (pl (pl (pl (pl (pr (pr (pl (pl (pr h))))))))))
  | 19, _ => exact (pl (pr (pr (pl (pl (pr (pr (pl (pl (pr h))))))))))
  | 20, _ => exact (pl (pr (pr (pr (pr (pl (pr (pr (pl (pl (pr h)))))))))))
  | 21, _ => exact (pl (pl (pr (pr (pl (pl (pr (pl (pl (pr h))))))))))
  | 22, _ => exact (pl (pr (pr (pl (pl (pl (pl (pl (pl (pr h))))))))))
  | 23, _ => exact (pl (pr (pl (pr (pl (pl (pl (pl (pl (pr h))))))))))
  | 24, _ => exact (pl (pl (pr (pl (pl (pl (pl (pr (pl (pr h))))))))))
  | 25, _ => exact (pl (pl (pl (pr (pl (pl (pl (pr (pl (pr h))))))))))
  | 26, _ => exact (pr (pl (pr (pr (pl (pl (pl (pr (pl (pr h))))))))))
  | 27, _ => exact (pl (pl (pr (pl (pr (pr (pl (pr (pl (pr h))))))))))
  | 28, _ => exact (pr (pr (pr (pr (pr (pl (pr (pl (pr (pl (pr h)))))))))))
  | 29, _ => exact (pr (pl (pl (pl (pr (pl (pl (pr (pl (pr h))))))))))
  | 30, _ => exact (pl (pr (pl (pr (pr (pr (pl (pr (pl (pr h))))))))))
  | 31, _ => exact (pl (pr (pr (pr (pr (pr (pl (pr (pl (pr h))))))))))
  | 32, _ => exact (pl (pr (pl (pl (pl (pl (pr (pr (pl (pr h))))))))))
  | 33, _ => exact (pl (pr (pr (pr (pl (pl (pl (pr (pr (pl (pr h)))))))))))
  | 34, _ => exact (pr (pl (pr (pl (pr (pl (pr (pl (pl (pr h))))))))))
  | 35, _ => exact (pr (pr (pl (pr (pl (pl (pr (pr (pl (pr h))))))))))
  | 36, _ => exact (pr (pr (pr (pr (pr (pl (pl (pr (pr (pl (pr h)))))))))))
  | 37, _ => exact (pl (pl (pr (pl (pr (pl (pr (pr (pl (pr h))))))))))
  | 38, _ => exact (pl (pl (pl (pr (pr (pl (pr (pr (pl (pr h))))))))))
  | 39, _ => exact (pl (pl (pr (pr (pr (pl (pr (pr (pl (pr h))))))))))
  | 40, _ => exact (pl (pl (pl (pl (pl (pr (pr (pr (pl (pr h))))))))))
  | k + 41, h3 => exact absurd h3 (by omega)
theorem px_sx {args : Array Value} {s : State} (h : (Jvm.Cond.and given_1 narrow_1).before args s = true) : ∀ i, i < 46 → (Cond.exactly (strT i) "java/lang/String").before args s = true := fun i hi => by
  match i, hi with
  | 0, _ => exact (pl (pl (pr (pr (pr (pl (pl (pl (pr (pr h))))))))))
  | 1, _ => exact (pl (pl (pr (pr (pr (pl (pl (pl (pr (pr h))))))))))
  | 2, _ => exact (pl (pl (pr (pr (pr (pl (pl (pl (pr (pr h))))))))))
  | 3, _ => exact (pl (pl (pr (pr (pr (pl (pl (pl (pr (pr h))))))))))
  | 4, _ => exact (pl (pr (pr (pl (pr (pl (pl (pr (pr (pr h))))))))))
  | 5, _ => exact (pr (pr (pr (pr (pr (pl (pl (pr (pl (pr (pr h)))))))))))
  | 6, _ => exact (pl (pr (pl (pr (pr (pl (pl (pr (pr (pr h))))))))))
  | 7, _ => exact (pl (pr (pr (pr (pr (pl (pl (pr (pr (pr h))))))))))
  | 8, _ => exact (pl (pr (pl (pl (pl (pr (pl (pr (pr (pr h))))))))))
  | 9, _ => exact (pr (pl (pl (pl (pr (pl (pl (pr (pr (pr h))))))))))
  | 10, _ => exact (pl (pr (pr (pr (pl (pl (pr (pl (pr (pr (pr h)))))))))))
  | 11, _ => exact (pr (pl (pl (pl (pr (pr (pr (pl (pr (pr h))))))))))
  | 12, _ => exact (pl (pr (pr (pr (pl (pl (pr (pl (pl (pr (pr h)))))))))))
  | 13, _ => exact (pl (pr (pr (pl (pr (pr (pl (pl (pr (pr h))))))))))
  | 14, _ => exact (pl (pl (pr (pr (pr (pr (pl (pl (pr (pr h))))))))))
  | 15, _ => exact (pr (pl (pl (pr (pr (pl (pr (pl (pr (pr h))))))))))
  | 16, _ => exact (pr (pr (pr (pr (pr (pr (pl (pr (pl (pr (pr h)))))))))))
  | 17, _ => exact (pl (pl (pl (pr (pl (pr (pr (pl (pr (pr h))))))))))
  | 18, _ => exact (pr (pl (pl (pl (pl (pl (pr (pl (pr (pr h))))))))))
  | 19, _ => exact (pl (pr (pl (pr (pl (pl (pr (pl (pr (pr h))))))))))
  | 20, _ => exact (pl (pl (pr (pl (pr (pl (pr (pl (pr (pr h))))))))))
  | 21, _ => exact (pr (pr (pr (pr (pr (pr (pl (pl (pl (pr (pr h)))))))))))
  | 22, _ => exact (pl (pr (pr (pr (pl (pl (pl (pl (pr (pr h))))))))))
  | 23, _ => exact (pr (pl (pr (pl (pr (pl (pl (pl (pr (pr h))))))))))
  | 24, _ => exact (pl (pr (pr (pl (pr (pr (pr (pl (pr (pr h))))))))))
  | 25, _ => exact (pr (pl (pr (pr (pr (pr (pr (pl (pr (pr h))))))))))
  | 26, _ => exact (pr (pr (pl (pl (pl (pl (pl (pr (pr (pr h))))))))))
  | 27, _ => exact (pr (pl (pl (pl (pr (pr (pl (pr (pr (pr h))))))))))
  | 28, _ => exact (pr (pr (pl (pr (pl (pr (pl (pr (pr (pr h))))))))))
  | 29, _ => exact (pr (pr (pl (pr (pl (pl (pl (pr (pr (pr h))))))))))
  | 30, _ => exact (pl (pr (pr (pr (pl (pr (pr (pl (pr (pr (pr h)))))))))))
  | 31, _ => exact (pl (pr (pr (pr (pr (pr (pr (pl (pr (pr (pr h)))))))))))
  | 32, _ => exact (pl (pr (pr (pr (pl (pl (pl (pr (pr (pr (pr h)))))))))))
  | 33, _ => exact (pl (pr (pr (pr (pr (pl (pl (pr (pr (pr (pr h)))))))))))
  | 34, _ => exact (pl (pr (pr (pr (pl (pr (pl (pl (pr (pr h))))))))))
  | 35, _ => exact (pl (pr (pr (pl (pr (pl (pr (pr (pr (pr h))))))))))
  | 36, _ => exact (pl (pr (pr (pr (pr (pl (pr (pr (pr (pr h))))))))))
  | 37, _ => exact (pr (pl (pr (pl (pl (pr (pr (pr (pr (pr h))))))))))
  | 38, _ => exact (pl (pl (pr (pr (pl (pr (pr (pr (pr (pr h))))))))))
  | 39, _ => exact (pl (pr (pl (pl (pr (pr (pr (pr (pr (pr h))))))))))
  | 40, _ => exact (pl (pr (pl (pr (pr (pr (pr (pr (pr (pr h))))))))))
  | 41, _ => exact (pr (pl (pl (pr (pl (pr (pr (pr (pl (pr h))))))))))
  | 42, _ => exact (pr (pl (pl (pl (pr (pr (pr (pr (pl (pr h))))))))))
  | 43, _ => exact (pr (pr (pr (pr (pl (pr (pr (pr (pr (pl (pr h)))))))))))
  | 44, _ => exact (pl (pr (pr (pr (pr (pr (pr (pr (pl (pr h))))))))))
  | 45, _ => exact (pr (pr (pr (pr (pl (pl (pl (pl (pl (pr (pr h)))))))))))
  | k + 46, h3 => exact absurd h3 (by omega)
theorem px_sc {args : Array Value} {s : State} (h : (Jvm.Cond.and given_1 narrow_1).before args s = true) : ∀ i, i < 46 → (Cond.eq (.field (strT i) "java/lang/String" "coder" "B") (.int 0)).before args s = true := fun i hi => by
  match i, hi with
  | 0, _ => exact (pr (pl (pr (pr (pr (pl (pl (pl (pr (pr h))))))))))
  | 1, _ => exact (pr (pl (pr (pr (pr (pl (pl (pl (pr (pr h))))))))))
  | 2, _ => exact (pr (pl (pr (pr (pr (pl (pl (pl (pr (pr h))))))))))
  | 3, _ => exact (pr (pl (pr (pr (pr (pl (pl (pl (pr (pr h))))))))))
  | 4, _ => exact (pl (pr (pr (pr (pl (pr (pl (pl (pr (pr (pr h)))))))))))
  | 5, _ => exact (pl (pl (pl (pl (pr (pl (pr (pl (pr (pr h))))))))))
  | 6, _ => exact (pl (pr (pr (pl (pr (pr (pl (pl (pr (pr (pr h)))))))))))
  | 7, _ => exact (pl (pr (pr (pr (pr (pr (pl (pl (pr (pr (pr h)))))))))))
  | 8, _ => exact (pr (pr (pl (pl (pl (pr (pl (pr (pr (pr h))))))))))
  | 9, _ => exact (pl (pr (pl (pl (pr (pl (pl (pr (pr (pr h))))))))))
  | 10, _ => exact (pr (pr (pr (pr (pl (pl (pr (pl (pr (pr (pr h)))))))))))
  | 11, _ => exact (pl (pr (pl (pl (pr (pr (pr (pl (pr (pr h))))))))))
  | 12, _ => exact (pr (pr (pr (pr (pl (pl (pr (pl (pl (pr (pr h)))))))))))
  | 13, _ => exact (pl (pr (pr (pr (pl (pr (pr (pl (pl (pr (pr h)))))))))))
  | 14, _ => exact (pr (pl (pr (pr (pr (pr (pl (pl (pr (pr h))))))))))
  | 15, _ => exact (pl (pr (pl (pr (pr (pl (pr (pl (pr (pr h))))))))))
  | 16, _ => exact (pl (pl (pl (pl (pl (pr (pr (pl (pr (pr h))))))))))
  | 17, _ => exact (pr (pl (pl (pr (pl (pr (pr (pl (pr (pr h))))))))))
  | 18, _ => exact (pl (pr (pl (pl (pl (pl (pr (pl (pr (pr h))))))))))
  | 19, _ => exact (pr (pr (pl (pr (pl (pl (pr (pl (pr (pr h))))))))))
  | 20, _ => exact (pr (pl (pr (pl (pr (pl (pr (pl (pr (pr h))))))))))
  | 21, _ => exact (pl (pl (pl (pl (pl (pr (pl (pl (pr (pr h))))))))))
  | 22, _ => exact (pl (pr (pr (pr (pr (pl (pl (pl (pl (pr (pr h)))))))))))
  | 23, _ => exact (pl (pr (pr (pl (pr (pl (pl (pl (pr (pr h))))))))))
  | 24, _ => exact (pl (pr (pr (pr (pl (pr (pr (pr (pl (pr (pr h)))))))))))
  | 25, _ => exact (pl (pr (pr (pr (pr (pr (pr (pl (pr (pr h))))))))))
  | 26, _ => exact (pl (pl (pr (pl (pl (pl (pl (pr (pr (pr h))))))))))
  | 27, _ => exact (pl (pr (pl (pl (pr (pr (pl (pr (pr (pr h))))))))))
  | 28, _ => exact (pl (pl (pr (pr (pl (pr (pl (pr (pr (pr h))))))))))
  | 29, _ => exact (pl (pl (pr (pr (pl (pl (pl (pr (pr (pr h))))))))))
  | 30, _ => exact (pr (pr (pr (pr (pl (pr (pr (pl (pr (pr (pr h)))))))))))
  | 31, _ => exact (pr (pr (pr (pr (pr (pr (pr (pl (pr (pr (pr h)))))))))))
  | 32, _ => exact (pr (pr (pr (pr (pl (pl (pl (pr (pr (pr (pr h)))))))))))
  | 33, _ => exact (pr (pr (pr (pr (pr (pl (pl (pr (pr (pr (pr h)))))))))))
  | 34, _ => exact (pl (pr (pr (pr (pr (pl (pr (pl (pl (pr (pr h)))))))))))
  | 35, _ => exact (pl (pr (pr (pr (pl (pr (pl (pr (pr (pr (pr h)))))))))))
  | 36, _ => exact (pl (pr (pr (pr (pr (pr (pl (pr (pr (pr (pr h)))))))))))
  | 37, _ => exact (pl (pr (pr (pl (pl (pr (pr (pr (pr (pr h))))))))))
  | 38, _ => exact (pr (pl (pr (pr (pl (pr (pr (pr (pr (pr h))))))))))
  | 39, _ => exact (pr (pr (pl (pl (pr (pr (pr (pr (pr (pr h))))))))))
  | 40, _ => exact (pl (pr (pr (pl (pr (pr (pr (pr (pr (pr (pr h)))))))))))
  | 41, _ => exact (pl (pr (pl (pr (pl (pr (pr (pr (pl (pr h))))))))))
  | 42, _ => exact (pl (pr (pl (pl (pr (pr (pr (pr (pl (pr h))))))))))
  | 43, _ => exact (pl (pl (pl (pr (pr (pr (pr (pr (pl (pr h))))))))))
  | 44, _ => exact (pl (pr (pr (pr (pr (pr (pr (pr (pr (pl (pr h)))))))))))
  | 45, _ => exact (pl (pl (pl (pr (pl (pl (pl (pl (pr (pr h))))))))))
  | k + 46, h3 => exact absurd h3 (by omega)
theorem px_sa {args : Array Value} {s : State} (h : (Jvm.Cond.and given_1 narrow_1).before args s = true) : ∀ i, i < 46 → (Cond.arrayOf (.field (strT i) "java/lang/String" "value" "[B") .byte).before args s = true := fun i hi => by
  match i, hi with
  | 0, _ => exact (pl (pr (pr (pr (pr (pl (pl (pl (pr (pr h))))))))))
  | 1, _ => exact (pl (pr (pr (pr (pr (pl (pl (pl (pr (pr h))))))))))
  | 2, _ => exact (pl (pr (pr (pr (pr (pl (pl (pl (pr (pr h))))))))))
  | 3, _ => exact (pl (pr (pr (pr (pr (pl (pl (pl (pr (pr h))))))))))
  | 4, _ => exact (pr (pr (pr (pr (pl (pr (pl (pl (pr (pr (pr h)))))))))))
  | 5, _ => exact (pr (pl (pl (pl (pr (pl (pr (pl (pr (pr h))))))))))
  | 6, _ => exact (pr (pr (pr (pl (pr (pr (pl (pl (pr (pr (pr h)))))))))))
  | 7, _ => exact (pr (pr (pr (pr (pr (pr (pl (pl (pr (pr (pr h)))))))))))
  | 8, _ => exact (pl (pl (pr (pl (pl (pr (pl (pr (pr (pr h))))))))))
  | 9, _ => exact (pr (pr (pl (pl (pr (pl (pl (pr (pr (pr h))))))))))
  | 10, _ => exact (pl (pl (pl (pr (pl (pr (pl (pr (pr (pr h))))))))))
  | 11, _ => exact (pr (pr (pl (pl (pr (pr (pr (pl (pr (pr h))))))))))
  | 12, _ => exact (pl (pl (pl (pr (pl (pr (pl (pl (pr (pr h))))))))))
  | 13, _ => exact (pr (pr (pr (pr (pl (pr (pr (pl (pl (pr (pr h)))))))))))
  | 14, _ => exact (pl (pr (pr (pr (pr (pr (pl (pl (pr (pr h))))))))))
  | 15, _ => exact (pl (pr (pr (pl (pr (pr (pl (pr (pl (pr (pr h)))))))))))
  | 16, _ => exact (pr (pl (pl (pl (pl (pr (pr (pl (pr (pr h))))))))))
  | 17, _ => exact (pl (pr (pl (pr (pl (pr (pr (pl (pr (pr h))))))))))
  | 18, _ => exact (pr (pr (pl (pl (pl (pl (pr (pl (pr (pr h))))))))))
  | 19, _ => exact (pl (pl (pr (pr (pl (pl (pr (pl (pr (pr h))))))))))
  | 20, _ => exact (pl (pr (pr (pl (pr (pl (pr (pl (pr (pr h))))))))))
  | 21, _ => exact (pr (pl (pl (pl (pl (pr (pl (pl (pr (pr h))))))))))
  | 22, _ => exact (pr (pr (pr (pr (pr (pl (pl (pl (pl (pr (pr h)))))))))))
  | 23, _ => exact (pl (pr (pr (pr (pl (pr (pl (pl (pl (pr (pr h)))))))))))
  | 24, _ => exact (pr (pr (pr (pr (pl (pr (pr (pr (pl (pr (pr h)))))))))))
  | 25, _ => exact (pl (pr (pr (pr (pr (pr (pr (pr (pl (pr (pr h)))))))))))
  | 26, _ => exact (pr (pl (pr (pl (pl (pl (pl (pr (pr (pr h))))))))))
  | 27, _ => exact (pr (pr (pl (pl (pr (pr (pl (pr (pr (pr h))))))))))
  | 28, _ => exact (pr (pl (pr (pr (pl (pr (pl (pr (pr (pr h))))))))))
  | 29, _ => exact (pr (pl (pr (pr (pl (pl (pl (pr (pr (pr h))))))))))
  | 30, _ => exact (pl (pl (pl (pr (pr (pr (pl (pr (pr (pr h))))))))))
  | 31, _ => exact (pl (pl (pl (pl (pl (pl (pr (pr (pr (pr h))))))))))
  | 32, _ => exact (pl (pl (pl (pr (pl (pl (pr (pr (pr (pr h))))))))))
  | 33, _ => exact (pl (pl (pl (pl (pr (pl (pr (pr (pr (pr h))))))))))
  | 34, _ => exact (pr (pr (pr (pr (pr (pl (pr (pl (pl (pr (pr h)))))))))))
  | 35, _ => exact (pr (pr (pr (pr (pl (pr (pl (pr (pr (pr (pr h)))))))))))
  | 36, _ => exact (pr (pr (pr (pr (pr (pr (pl (pr (pr (pr (pr h)))))))))))
  | 37, _ => exact (pl (pr (pr (pr (pl (pl (pr (pr (pr (pr (pr h)))))))))))
  | 38, _ => exact (pl (pr (pr (pr (pl (pr (pr (pr (pr (pr h))))))))))
  | 39, _ => exact (pl (pl (pr (pl (pr (pr (pr (pr (pr (pr h))))))))))
  | 40, _ => exact (pr (pr (pr (pl (pr (pr (pr (pr (pr (pr (pr h)))))))))))
  | 41, _ => exact (pl (pr (pr (pl (pr (pl (pr (pr (pr (pl (pr h)))))))))))
  | 42, _ => exact (pr (pr (pl (pl (pr (pr (pr (pr (pl (pr h))))))))))
  | 43, _ => exact (pr (pl (pl (pr (pr (pr (pr (pr (pl (pr h))))))))))
  | 44, _ => exact (pr (pr (pr (pr (pr (pr (pr (pr (pr (pl (pr h)))))))))))
  | 45, _ => exact (pr (pl (pl (pr (pl (pl (pl (pl (pr (pr h))))))))))
  | k + 46, h3 => exact absurd h3 (by omega)
theorem px_sl {args : Array Value} {s : State} (h : (Jvm.Cond.and given_1 narrow_1).before args s = true) : ∀ i, i < 46 → (Cond.eq (.length (.field (strT i) "java/lang/String" "value" "[B")) (.int (Int32.ofNat (sgB.getD i []).length))).before args s = true := fun i hi => by
  match i, hi with
  | 0, _ => exact (pl (pr (pr (pr (pr (pr (pl (pl (pl (pr (pr h)))))))))))
  | 1, _ => exact (pl (pr (pr (pr (pr (pr (pl (pl (pl (pr (pr h)))))))))))
  | 2, _ => exact (pl (pr (pr (pr (pr (pr (pl (pl (pl (pr (pr h)))))))))))
  | 3, _ => exact (pl (pr (pr (pr (pr (pr (pl (pl (pl (pr (pr h)))))))))))
  | 4, _ => exact (pl (pl (pl (pr (pr (pl (pl (pr (pr (pr h))))))))))
  | 5, _ => exact (pl (pr (pl (pl (pr (pl (pr (pl (pr (pr h))))))))))
  | 6, _ => exact (pl (pl (pr (pr (pr (pl (pl (pr (pr (pr h))))))))))
  | 7, _ => exact (pl (pl (pl (pl (pl (pr (pl (pr (pr (pr h))))))))))
  | 8, _ => exact (pr (pl (pr (pl (pl (pr (pl (pr (pr (pr h))))))))))
  | 9, _ => exact (pl (pl (pr (pl (pr (pl (pl (pr (pr (pr h))))))))))
  | 10, _ => exact (pr (pl (pl (pr (pl (pr (pl (pr (pr (pr h))))))))))
  | 11, _ => exact (pl (pl (pr (pl (pr (pr (pr (pl (pr (pr h))))))))))
  | 12, _ => exact (pr (pl (pl (pr (pl (pr (pl (pl (pr (pr h))))))))))
  | 13, _ => exact (pl (pl (pl (pr (pr (pr (pl (pl (pr (pr h))))))))))
  | 14, _ => exact (pl (pr (pr (pr (pr (pr (pr (pl (pl (pr (pr h)))))))))))
  | 15, _ => exact (pr (pr (pr (pl (pr (pr (pl (pr (pl (pr (pr h)))))))))))
  | 16, _ => exact (pl (pr (pl (pl (pl (pr (pr (pl (pr (pr h))))))))))
  | 17, _ => exact (pl (pr (pr (pl (pr (pl (pr (pr (pl (pr (pr h)))))))))))
  | 18, _ => exact (pl (pl (pr (pl (pl (pl (pr (pl (pr (pr h))))))))))
  | 19, _ => exact (pr (pl (pr (pr (pl (pl (pr (pl (pr (pr h))))))))))
  | 20, _ => exact (pl (pr (pr (pr (pl (pr (pl (pr (pl (pr (pr h)))))))))))
  | 21, _ => exact (pl (pr (pl (pl (pl (pr (pl (pl (pr (pr h))))))))))
  | 22, _ => exact (pl (pl (pl (pl (pr (pl (pl (pl (pr (pr h))))))))))
  | 23, _ => exact (pr (pr (pr (pr (pl (pr (pl (pl (pl (pr (pr h)))))))))))
  | 24, _ => exact (pl (pl (pl (pr (pr (pr (pr (pl (pr (pr h))))))))))
  | 25, _ => exact (pr (pr (pr (pr (pr (pr (pr (pr (pl (pr (pr h)))))))))))
  | 26, _ => exact (pl (pr (pr (pl (pl (pl (pl (pr (pr (pr h))))))))))
  | 27, _ => exact (pl (pl (pr (pl (pr (pr (pl (pr (pr (pr h))))))))))
  | 28, _ => exact (pl (pr (pr (pr (pl (pr (pl (pr (pr (pr h))))))))))
  | 29, _ => exact (pl (pr (pr (pr (pl (pl (pl (pr (pr (pr h))))))))))
  | 30, _ => exact (pr (pl (pl (pr (pr (pr (pl (pr (pr (pr h))))))))))
  | 31, _ => exact (pr (pl (pl (pl (pl (pl (pr (pr (pr (pr h))))))))))
  | 32, _ => exact (pr (pl (pl (pr (pl (pl (pr (pr (pr (pr h))))))))))
  | 33, _ => exact (pr (pl (pl (pl (pr (pl (pr (pr (pr (pr h))))))))))
  | 34, _ => exact (pl (pl (pl (pl (pr (pr (pl (pl (pr (pr h))))))))))
  | 35, _ => exact (pl (pl (pl (pr (pr (pl (pr (pr (pr (pr h))))))))))
  | 36, _ => exact (pl (pl (pl (pl (pl (pr (pr (pr (pr (pr h))))))))))
  | 37, _ => exact (pr (pr (pr (pr (pl (pl (pr (pr (pr (pr (pr h)))))))))))
  | 38, _ => exact (pl (pr (pr (pr (pr (pl (pr (pr (pr (pr (pr h)))))))))))
  | 39, _ => exact (pr (pl (pr (pl (pr (pr (pr (pr (pr (pr h))))))))))
  | 40, _ => exact (pl (pl (pr (pr (pr (pr (pr (pr (pr (pr h))))))))))
  | 41, _ => exact (pr (pr (pr (pl (pr (pl (pr (pr (pr (pl (pr h)))))))))))
  | 42, _ => exact (pl (pl (pr (pl (pr (pr (pr (pr (pl (pr h))))))))))
  | 43, _ => exact (pl (pr (pl (pr (pr (pr (pr (pr (pl (pr h))))))))))
  | 44, _ => exact (pl (pl (pl (pl (pl (pl (pl (pl (pr (pr h))))))))))
  | 45, _ => exact (pl (pr (pl (pr (pl (pl (pl (pl (pr (pr h))))))))))
  | k + 46, h3 => exact absurd h3 (by omega)
theorem px_se {args : Array Value} {s : State} (h : (Jvm.Cond.and given_1 narrow_1).before args s = true) : ∀ i, i < 46 → ∀ j, j < (sgB.getD i []).length → (Cond.eq (.elem (.field (strT i) "java/lang/String" "value" "[B") (.int (Int32.ofNat j))) (.int (iI ((sgB.getD i []).getD j 0)))).before args s = true := fun i hi j hj => by
  match i, hi with
  | 0, _ => exact absurd (show j < 0 from hj) (by omega)
  | 1, _ => exact absurd (show j < 0 from hj) (by omega)
  | 2, _ => exact absurd (show j < 0 from hj) (by omega)
  | 3, _ => exact absurd (show j < 0 from hj) (by omega)
  | 4, _ =>
    match j, hj with
    | 0, _ => exact (pr (pl (pl (pr (pr (pl (pl (pr (pr (pr h))))))))))
    | j + 1, h3 => exact absurd (show j + 1 < 1 from h3) (by omega)
  | 5, _ =>
    match j, hj with
    | 0, _ => exact (pr (pr (pl (pl (pr (pl (pr (pl (pr (pr h))))))))))
    | j + 1, h3 => exact absurd (show j + 1 < 1 from h3) (by omega)
  | 6, _ =>
    match j, hj with
    | 0, _ => exact (pr (pl (pr (pr (pr (pl (pl (pr (pr (pr h))))))))))
    | j + 1, h3 => exact absurd (show j + 1 < 1 from h3) (by omega)
  | 7, _ =>
    match j, hj with
    | 0, _ => exact (pr (pl (pl (pl (pl (pr (pl (pr (pr (pr h))))))))))
    | j + 1, h3 => exact absurd (show j + 1 < 1 from h3) (by omega)
  | 8, _ =>
    match j, hj with
    | 0, _ => exact (pl (pr (pr (pl (pl (pr (pl (pr (pr (pr h))))))))))
    | j + 1, h3 => exact absurd (show j + 1 < 1 from h3) (by omega)
  | 9, _ =>
    match j, hj with
    | 0, _ => exact (pr (pl (pr (pl (pr (pl (pl (pr (pr (pr h))))))))))
    | j + 1, h3 => exact absurd (show j + 1 < 1 from h3) (by omega)
  | 10, _ =>
    match j, hj with
    | 0, _ => exact (pl (pr (pl (pr (pl (pr (pl (pr (pr (pr h))))))))))
    | j + 1, h3 => exact absurd (show j + 1 < 1 from h3) (by omega)
  | 11, _ =>
    match j, hj with
    | 0, _ => exact (pr (pl (pr (pl (pr (pr (pr (pl (pr (pr h))))))))))
    | j + 1, h3 => exact absurd (show j + 1 < 1 from h3) (by omega)
  | 12, _ =>
    match j, hj with
    | 0, _ => exact (pl (pr (pl (pr (pl (pr (pl (pl (pr (pr h))))))))))
    | 1, _ => exact (pr (pr (pl (pr (pl (pr (pl (pl (pr (pr h))))))))))
    | 2, _ => exact (pl (pl (pr (pr (pl (pr (pl (pl (pr (pr h))))))))))
    | 3, _ => exact (pr (pl (pr (pr (pl (pr (pl (pl (pr (pr h))))))))))
    | j + 4, h3 => exact absurd (show j + 4 < 4 from h3) (by omega)
  | 13, _ =>
    match j, hj with
    | 0, _ => exact (pr (pl (pl (pr (pr (pr (pl (pl (pr (pr h))))))))))
    | 1, _ => exact (pl (pr (pl (pr (pr (pr (pl (pl (pr (pr h))))))))))
    | 2, _ => exact (pl (pr (pr (pl (pr (pr (pr (pl (pl (pr (pr h)))))))))))
    | 3, _ => exact (pr (pr (pr (pl (pr (pr (pr (pl (pl (pr (pr h)))))))))))
    | j + 4, h3 => exact absurd (show j + 4 < 4 from h3) (by omega)
  | 14, _ =>
    match j, hj with
    | 0, _ => exact (pr (pr (pr (pr (pr (pr (pr (pl (pl (pr (pr h)))))))))))
    | 1, _ => exact (pl (pl (pl (pl (pl (pl (pr (pl (pr (pr h))))))))))
    | j + 2, h3 => exact absurd (show j + 2 < 2 from h3) (by omega)
  | 15, _ =>
    match j, hj with
    | 0, _ => exact (pl (pl (pr (pr (pr (pl (pr (pl (pr (pr h))))))))))
    | 1, _ => exact (pr (pl (pr (pr (pr (pl (pr (pl (pr (pr h))))))))))
    | 2, _ => exact (pl (pr (pr (pr (pr (pl (pr (pl (pr (pr h))))))))))
    | 3, _ => exact (pl (pr (pr (pr (pr (pr (pl (pr (pl (pr (pr h)))))))))))
    | j + 4, h3 => exact absurd (show j + 4 < 4 from h3) (by omega)
  | 16, _ =>
    match j, hj with
    | 0, _ => exact (pr (pr (pl (pl (pl (pr (pr (pl (pr (pr h))))))))))
    | 1, _ => exact (pl (pl (pr (pl (pl (pr (pr (pl (pr (pr h))))))))))
    | 2, _ => exact (pr (pl (pr (pl (pl (pr (pr (pl (pr (pr h))))))))))
    | 3, _ => exact (pl (pr (pr (pl (pl (pr (pr (pl (pr (pr h))))))))))
    | 4, _ => exact (pl (pr (pr (pr (pl (pl (pr (pr (pl (pr (pr h)))))))))))
    | 5, _ => exact (pr (pr (pr (pr (pl (pl (pr (pr (pl (pr (pr h)))))))))))
    | j + 6, h3 => exact absurd (show j + 6 < 6 from h3) (by omega)
  | 17, _ =>
    match j, hj with
    | 0, _ => exact (pr (pr (pr (pl (pr (pl (pr (pr (pl (pr (pr h)))))))))))
    | 1, _ => exact (pl (pl (pr (pr (pl (pr (pr (pl (pr (pr h))))))))))
    | 2, _ => exact (pr (pl (pr (pr (pl (pr (pr (pl (pr (pr h))))))))))
    | 3, _ => exact (pl (pr (pr (pr (pl (pr (pr (pl (pr (pr h))))))))))
    | 4, _ => exact (pl (pr (pr (pr (pr (pl (pr (pr (pl (pr (pr h)))))))))))
    | 5, _ => exact (pr (pr (pr (pr (pr (pl (pr (pr (pl (pr (pr h)))))))))))
    | 6, _ => exact (pl (pl (pl (pl (pr (pr (pr (pl (pr (pr h))))))))))
    | j + 7, h3 => exact absurd (show j + 7 < 7 from h3) (by omega)
  | 18, _ =>
    match j, hj with
    | 0, _ => exact (pr (pl (pr (pl (pl (pl (pr (pl (pr (pr h))))))))))
    | 1, _ => exact (pl (pr (pr (pl (pl (pl (pr (pl (pr (pr h))))))))))
    | 2, _ => exact (pl (pr (pr (pr (pl (pl (pl (pr (pl (pr (pr h)))))))))))
    | 3, _ => exact (pr (pr (pr (pr (pl (pl (pl (pr (pl (pr (pr h)))))))))))
    | 4, _ => exact (pl (pl (pl (pr (pl (pl (pr (pl (pr (pr h))))))))))
    | 5, _ => exact (pr (pl (pl (pr (pl (pl (pr (pl (pr (pr h))))))))))
    | j + 6, h3 => exact absurd (show j + 6 < 6 from h3) (by omega)
  | 19, _ =>
    match j, hj with
    | 0, _ => exact (pl (pr (pr (pr (pl (pl (pr (pl (pr (pr h))))))))))
    | 1, _ => exact (pl (pr (pr (pr (pr (pl (pl (pr (pl (pr (pr h)))))))))))
    | j + 2, h3 => exact absurd (show j + 2 < 2 from h3) (by omega)
  | 20, _ =>
    match j, hj with
    | 0, _ => exact (pr (pr (pr (pr (pl (pr (pl (pr (pl (pr (pr h)))))))))))
    | 1, _ => exact (pl (pl (pl (pr (pr (pl (pr (pl (pr (pr h))))))))))
    | j + 2, h3 => exact absurd (show j + 2 < 2 from h3) (by omega)
  | 21, _ =>
    match j, hj with
    | 0, _ => exact (pr (pr (pl (pl (pl (pr (pl (pl (pr (pr h))))))))))
    | 1, _ => exact (pl (pl (pr (pl (pl (pr (pl (pl (pr (pr h))))))))))
    | 2, _ => exact (pr (pl (pr (pl (pl (pr (pl (pl (pr (pr h))))))))))
    | 3, _ => exact (pl (pr (pr (pl (pl (pr (pl (pl (pr (pr h))))))))))
    | j + 4, h3 => exact absurd (show j + 4 < 4 from h3) (by omega)
  | 22, _ =>
    match j, hj with
    | 0, _ => exact (pr (pl (pl (pl (pr (pl (pl (pl (pr (pr h))))))))))
    | 1, _ => exact (pl (pr (pl (pl (pr (pl (pl (pl (pr (pr h))))))))))
    | 2, _ => exact (pr (pr (pl (pl (pr (pl (pl (pl (pr (pr h))))))))))
    | 3, _ => exact (pl (pl (pr (pl (pr (pl (pl (pl (pr (pr h))))))))))
    | j + 4, h3 => exact absurd (show j + 4 < 4 from h3) (by omega)
  | 23, _ =>
    match j, hj with
    | 0, _ => exact (pl (pl (pl (pr (pr (pl (pl (pl (pr (pr h))))))))))
    | 1, _ => exact (pr (pl (pl (pr (pr (pl (pl (pl (pr (pr h))))))))))
    | 2, _ => exact (pl (pr (pl (pr (pr (pl (pl (pl (pr (pr h))))))))))
    | 3, _ => exact (pl (pr (pr (pl (pr (pr (pl (pl (pl (pr (pr h)))))))))))
    | 4, _ => exact (pr (pr (pr (pl (pr (pr (pl (pl (pl (pr (pr h)))))))))))
    | j + 5, h3 => exact absurd (show j + 5 < 5 from h3) (by omega)
  | 24, _ =>
    match j, hj with
    | 0, _ => exact (pr (pl (pl (pr (pr (pr (pr (pl (pr (pr h))))))))))
    | 1, _ => exact (pl (pr (pl (pr (pr (pr (pr (pl (pr (pr h))))))))))
    | 2, _ => exact (pl (pr (pr (pl (pr (pr (pr (pr (pl (pr (pr h)))))))))))
    | 3, _ => exact (pr (pr (pr (pl (pr (pr (pr (pr (pl (pr (pr h)))))))))))
    | 4, _ => exact (pl (pl (pr (pr (pr (pr (pr (pl (pr (pr h))))))))))
    | j + 5, h3 => exact absurd (show j + 5 < 5 from h3) (by omega)
  | 25, _ =>
    match j, hj with
    | 0, _ => exact (pl (pl (pl (pl (pl (pl (pl (pr (pr (pr h))))))))))
    | 1, _ => exact (pr (pl (pl (pl (pl (pl (pl (pr (pr (pr h))))))))))
    | 2, _ => exact (pl (pr (pl (pl (pl (pl (pl (pr (pr (pr h))))))))))
    | j + 3, h3 => exact absurd (show j + 3 < 3 from h3) (by omega)
  | 26, _ =>
    match j, hj with
    | 0, _ => exact (pl (pr (pr (pr (pl (pl (pl (pl (pr (pr (pr h)))))))))))
    | 1, _ => exact (pr (pr (pr (pr (pl (pl (pl (pl (pr (pr (pr h)))))))))))
    | 2, _ => exact (pl (pl (pl (pr (pl (pl (pl (pr (pr (pr h))))))))))
    | 3, _ => exact (pr (pl (pl (pr (pl (pl (pl (pr (pr (pr h))))))))))
    | 4, _ => exact (pl (pr (pl (pr (pl (pl (pl (pr (pr (pr h))))))))))
    | j + 5, h3 => exact absurd (show j + 5 < 5 from h3) (by omega)
  | 27, _ =>
    match j, hj with
    | 0, _ => exact (pr (pl (pr (pl (pr (pr (pl (pr (pr (pr h))))))))))
    | 1, _ => exact (pl (pr (pr (pl (pr (pr (pl (pr (pr (pr h))))))))))
    | j + 2, h3 => exact absurd (show j + 2 < 2 from h3) (by omega)
  | 28, _ =>
    match j, hj with
    | 0, _ => exact (pl (pr (pr (pr (pr (pl (pr (pl (pr (pr (pr h)))))))))))
    | 1, _ => exact (pr (pr (pr (pr (pr (pl (pr (pl (pr (pr (pr h)))))))))))
    | 2, _ => exact (pl (pl (pl (pl (pr (pr (pl (pr (pr (pr h))))))))))
    | j + 3, h3 => exact absurd (show j + 3 < 3 from h3) (by omega)
  | 29, _ =>
    match j, hj with
    | 0, _ => exact (pl (pr (pr (pr (pr (pl (pl (pl (pr (pr (pr h)))))))))))
    | 1, _ => exact (pr (pr (pr (pr (pr (pl (pl (pl (pr (pr (pr h)))))))))))
    | 2, _ => exact (pl (pl (pl (pl (pr (pl (pl (pr (pr (pr h))))))))))
    | j + 3, h3 => exact absurd (show j + 3 < 3 from h3) (by omega)
  | 30, _ =>
    match j, hj with
    | 0, _ => exact (pl (pr (pl (pr (pr (pr (pl (pr (pr (pr h))))))))))
    | 1, _ => exact (pl (pr (pr (pl (pr (pr (pr (pl (pr (pr (pr h)))))))))))
    | 2, _ => exact (pr (pr (pr (pl (pr (pr (pr (pl (pr (pr (pr h)))))))))))
    | 3, _ => exact (pl (pl (pr (pr (pr (pr (pl (pr (pr (pr h))))))))))
    | 4, _ => exact (pr (pl (pr (pr (pr (pr (pl (pr (pr (pr h))))))))))
    | 5, _ => exact (pl (pr (pr (pr (pr (pr (pl (pr (pr (pr h))))))))))
    | j + 6, h3 => exact absurd (show j + 6 < 6 from h3) (by omega)
  | 31, _ =>
    match j, hj with
    | 0, _ => exact (pl (pr (pl (pl (pl (pl (pr (pr (pr (pr h))))))))))
    | 1, _ => exact (pr (pr (pl (pl (pl (pl (pr (pr (pr (pr h))))))))))
    | 2, _ => exact (pl (pl (pr (pl (pl (pl (pr (pr (pr (pr h))))))))))
    | 3, _ => exact (pr (pl (pr (pl (pl (pl (pr (pr (pr (pr h))))))))))
    | 4, _ => exact (pl (pr (pr (pl (pl (pl (pr (pr (pr (pr h))))))))))
    | j + 5, h3 => exact absurd (show j + 5 < 5 from h3) (by omega)
  | 32, _ =>
    match j, hj with
    | 0, _ => exact (pl (pr (pl (pr (pl (pl (pr (pr (pr (pr h))))))))))
    | 1, _ => exact (pr (pr (pl (pr (pl (pl (pr (pr (pr (pr h))))))))))
    | 2, _ => exact (pl (pl (pr (pr (pl (pl (pr (pr (pr (pr h))))))))))
    | 3, _ => exact (pr (pl (pr (pr (pl (pl (pr (pr (pr (pr h))))))))))
    | 4, _ => exact (pl (pr (pr (pr (pl (pl (pr (pr (pr (pr h))))))))))
    | j + 5, h3 => exact absurd (show j + 5 < 5 from h3) (by omega)
  | 33, _ =>
    match j, hj with
    | 0, _ => exact (pl (pr (pl (pl (pr (pl (pr (pr (pr (pr h))))))))))
    | 1, _ => exact (pr (pr (pl (pl (pr (pl (pr (pr (pr (pr h))))))))))
    | 2, _ => exact (pl (pl (pr (pl (pr (pl (pr (pr (pr (pr h))))))))))
    | 3, _ => exact (pr (pl (pr (pl (pr (pl (pr (pr (pr (pr h))))))))))
    | j + 4, h3 => exact absurd (show j + 4 < 4 from h3) (by omega)
  | 34, _ =>
    match j, hj with
    | 0, _ => exact (pr (pl (pl (pl (pr (pr (pl (pl (pr (pr h))))))))))
    | 1, _ => exact (pl (pr (pl (pl (pr (pr (pl (pl (pr (pr h))))))))))
    | 2, _ => exact (pr (pr (pl (pl (pr (pr (pl (pl (pr (pr h))))))))))
    | 3, _ => exact (pl (pl (pr (pl (pr (pr (pl (pl (pr (pr h))))))))))
    | 4, _ => exact (pr (pl (pr (pl (pr (pr (pl (pl (pr (pr h))))))))))
    | j + 5, h3 => exact absurd (show j + 5 < 5 from h3) (by omega)
  | 35, _ =>
    match j, hj with
    | 0, _ => exact (pr (pl (pl (pr (pr (pl (pr (pr (pr (pr h))))))))))
    | 1, _ => exact (pl (pr (pl (pr (pr (pl (pr (pr (pr (pr h))))))))))
    | 2, _ => exact (pl (pr (pr (pl (pr (pr (pl (pr (pr (pr (pr h)))))))))))
    | 3, _ => exact (pr (pr (pr (pl (pr (pr (pl (pr (pr (pr (pr h)))))))))))
    | 4, _ => exact (pl (pl (pr (pr (pr (pl (pr (pr (pr (pr h))))))))))
    | 5, _ => exact (pr (pl (pr (pr (pr (pl (pr (pr (pr (pr h))))))))))
    | j + 6, h3 => exact absurd (show j + 6 < 6 from h3) (by omega)
  | 36, _ =>
    match j, hj with
    | 0, _ => exact (pr (pl (pl (pl (pl (pr (pr (pr (pr (pr h))))))))))
    | 1, _ => exact (pl (pr (pl (pl (pl (pr (pr (pr (pr (pr h))))))))))
    | 2, _ => exact (pr (pr (pl (pl (pl (pr (pr (pr (pr (pr h))))))))))
    | 3, _ => exact (pl (pl (pr (pl (pl (pr (pr (pr (pr (pr h))))))))))
    | j + 4, h3 => exact absurd (show j + 4 < 4 from h3) (by omega)
  | 37, _ =>
    match j, hj with
    | 0, _ => exact (pl (pl (pl (pr (pl (pr (pr (pr (pr (pr h))))))))))
    | 1, _ => exact (pr (pl (pl (pr (pl (pr (pr (pr (pr (pr h))))))))))
    | 2, _ => exact (pl (pr (pl (pr (pl (pr (pr (pr (pr (pr h))))))))))
    | 3, _ => exact (pl (pr (pr (pl (pr (pl (pr (pr (pr (pr (pr h)))))))))))
    | 4, _ => exact (pr (pr (pr (pl (pr (pl (pr (pr (pr (pr (pr h)))))))))))
    | j + 5, h3 => exact absurd (show j + 5 < 5 from h3) (by omega)
  | 38, _ =>
    match j, hj with
    | 0, _ => exact (pr (pr (pr (pr (pr (pl (pr (pr (pr (pr (pr h)))))))))))
    | 1, _ => exact (pl (pl (pl (pl (pr (pr (pr (pr (pr (pr h))))))))))
    | 2, _ => exact (pr (pl (pl (pl (pr (pr (pr (pr (pr (pr h))))))))))
    | j + 3, h3 => exact absurd (show j + 3 < 3 from h3) (by omega)
  | 39, _ =>
    match j, hj with
    | 0, _ => exact (pl (pr (pr (pl (pr (pr (pr (pr (pr (pr h))))))))))
    | 1, _ => exact (pl (pr (pr (pr (pl (pr (pr (pr (pr (pr (pr h)))))))))))
    | 2, _ => exact (pr (pr (pr (pr (pl (pr (pr (pr (pr (pr (pr h)))))))))))
    | 3, _ => exact (pl (pl (pl (pr (pr (pr (pr (pr (pr (pr h))))))))))
    | 4, _ => exact (pr (pl (pl (pr (pr (pr (pr (pr (pr (pr h))))))))))
    | j + 5, h3 => exact absurd (show j + 5 < 5 from h3) (by omega)
  | 40, _ =>
    match j, hj with
    | 0, _ => exact (pr (pl (pr (pr (pr (pr (pr (pr (pr (pr h))))))))))
    | 1, _ => exact (pl (pr (pr (pr (pr (pr (pr (pr (pr (pr h))))))))))
    | 2, _ => exact (pl (pr (pr (pr (pr (pr (pr (pr (pr (pr (pr h)))))))))))
    | 3, _ => exact (pr (pr (pr (pr (pr (pr (pr (pr (pr (pr (pr h)))))))))))
    | j + 4, h3 => exact absurd (show j + 4 < 4 from h3) (by omega)
  | 41, _ =>
    match j, hj with
    | 0, _ => exact (pl (pl (pr (pr (pl (pr (pr (pr (pl (pr h))))))))))
    | 1, _ => exact (pr (pl (pr (pr (pl (pr (pr (pr (pl (pr h))))))))))
    | 2, _ => exact (pl (pr (pr (pr (pl (pr (pr (pr (pl (pr h))))))))))
    | 3, _ => exact (pl (pr (pr (pr (pr (pl (pr (pr (pr (pl (pr h)))))))))))
    | 4, _ => exact (pr (pr (pr (pr (pr (pl (pr (pr (pr (pl (pr h)))))))))))
    | 5, _ => exact (pl (pl (pl (pl (pr (pr (pr (pr (pl (pr h))))))))))
    | j + 6, h3 => exact absurd (show j + 6 < 6 from h3) (by omega)
  | 42, _ =>
    match j, hj with
    | 0, _ => exact (pr (pl (pr (pl (pr (pr (pr (pr (pl (pr h))))))))))
    | 1, _ => exact (pl (pr (pr (pl (pr (pr (pr (pr (pl (pr h))))))))))
    | 2, _ => exact (pl (pr (pr (pr (pl (pr (pr (pr (pr (pl (pr h)))))))))))
    | j + 3, h3 => exact absurd (show j + 3 < 3 from h3) (by omega)
  | 43, _ =>
    match j, hj with
    | 0, _ => exact (pl (pr (pr (pl (pr (pr (pr (pr (pr (pl (pr h)))))))))))
    | 1, _ => exact (pr (pr (pr (pl (pr (pr (pr (pr (pr (pl (pr h)))))))))))
    | 2, _ => exact (pl (pl (pr (pr (pr (pr (pr (pr (pl (pr h))))))))))
    | 3, _ => exact (pr (pl (pr (pr (pr (pr (pr (pr (pl (pr h))))))))))
    | j + 4, h3 => exact absurd (show j + 4 < 4 from h3) (by omega)
  | 44, _ =>
    match j, hj with
    | 0, _ => exact (pr (pl (pl (pl (pl (pl (pl (pl (pr (pr h))))))))))
    | 1, _ => exact (pl (pr (pl (pl (pl (pl (pl (pl (pr (pr h))))))))))
    | 2, _ => exact (pr (pr (pl (pl (pl (pl (pl (pl (pr (pr h))))))))))
    | 3, _ => exact (pl (pl (pr (pl (pl (pl (pl (pl (pr (pr h))))))))))
    | 4, _ => exact (pr (pl (pr (pl (pl (pl (pl (pl (pr (pr h))))))))))
    | 5, _ => exact (pl (pr (pr (pl (pl (pl (pl (pl (pr (pr h))))))))))
    | 6, _ => exact (pl (pr (pr (pr (pl (pl (pl (pl (pl (pr (pr h)))))))))))
    | j + 7, h3 => exact absurd (show j + 7 < 7 from h3) (by omega)
  | 45, _ =>
    match j, hj with
    | 0, _ => exact (pr (pr (pl (pr (pl (pl (pl (pl (pr (pr h))))))))))
    | 1, _ => exact (pl (pl (pr (pr (pl (pl (pl (pl (pr (pr h))))))))))
    | 2, _ => exact (pr (pl (pr (pr (pl (pl (pl (pl (pr (pr h))))))))))
    | j + 3, h3 => exact absurd (show j + 3 < 3 from h3) (by omega)
  | k + 46, h3 => exact absurd h3 (by omega)
theorem px_ge {args : Array Value} {s : State} (h : (Jvm.Cond.and given_1 narrow_1).before args s = true) : ∀ i, i < 41 → (Cond.eq (.elem (.static "LateSet" "SIGNS" "[LLateSet$Sign;") (.int (Int32.ofNat i))) (.static "LateSet$Sign" (sgN.getD i "") "LLateSet$Sign;")).before args s = true := fun i hi => by
  match i, hi with
  | 0, _ => exact (pl (pl (pl (pr (pr (pl (pl (pl (pl (pr h))))))))))
  | 1, _ => exact (pr (pl (pl (pr (pr (pl (pl (pl (pl (pr h))))))))))
  | 2, _ => exact (pl (pr (pl (pr (pr (pl (pl (pl (pl (pr h))))))))))
  | 3, _ => exact (pl (pr (pr (pl (pr (pr (pl (pl (pl (pl (pr h)))))))))))
  | 4, _ => exact (pr (pr (pr (pl (pr (pr (pl (pl (pl (pl (pr h)))))))))))
  | 5, _ => exact (pl (pl (pr (pr (pr (pl (pl (pl (pl (pr h))))))))))
  | 6, _ => exact (pr (pl (pr (pr (pr (pl (pl (pl (pl (pr h))))))))))
  | 7, _ => exact (pl (pr (pr (pr (pr (pl (pl (pl (pl (pr h))))))))))
  | 8, _ => exact (pl (pr (pr (pr (pr (pr (pl (pl (pl (pl (pr h)))))))))))
  | 9, _ => exact (pr (pr (pr (pr (pr (pr (pl (pl (pl (pl (pr h)))))))))))
  | 10, _ => exact (pl (pl (pl (pl (pl (pr (pl (pl (pl (pr h))))))))))
  | 11, _ => exact (pr (pl (pl (pl (pl (pr (pl (pl (pl (pr h))))))))))
  | 12, _ => exact (pl (pr (pl (pl (pl (pr (pl (pl (pl (pr h))))))))))
  | 13, _ => exact (pr (pr (pl (pl (pl (pr (pl (pl (pl (pr h))))))))))
  | 14, _ => exact (pl (pl (pr (pl (pl (pr (pl (pl (pl (pr h))))))))))
  | 15, _ => exact (pr (pl (pr (pl (pl (pr (pl (pl (pl (pr h))))))))))
  | 16, _ => exact (pl (pr (pr (pl (pl (pr (pl (pl (pl (pr h))))))))))
  | 17, _ => exact (pl (pr (pr (pr (pl (pl (pr (pl (pl (pl (pr h)))))))))))
  | 18, _ => exact (pr (pr (pr (pr (pl (pl (pr (pl (pl (pl (pr h)))))))))))
  | 19, _ => exact (pl (pl (pl (pr (pl (pr (pl (pl (pl (pr h))))))))))
  | 20, _ => exact (pr (pl (pl (pr (pl (pr (pl (pl (pl (pr h))))))))))
  | 21, _ => exact (pl (pr (pl (pr (pl (pr (pl (pl (pl (pr h))))))))))
  | 22, _ => exact (pr (pr (pl (pr (pl (pr (pl (pl (pl (pr h))))))))))
  | 23, _ => exact (pl (pl (pr (pr (pl (pr (pl (pl (pl (pr h))))))))))
  | 24, _ => exact (pr (pl (pr (pr (pl (pr (pl (pl (pl (pr h))))))))))
  | 25, _ => exact (pl (pr (pr (pr (pl (pr (pl (pl (pl (pr h))))))))))
  | 26, _ => exact (pl (pr (pr (pr (pr (pl (pr (pl (pl (pl (pr h)))))))))))
  | 27, _ => exact (pr (pr (pr (pr (pr (pl (pr (pl (pl (pl (pr h)))))))))))
  | 28, _ => exact (pl (pl (pl (pl (pr (pr (pl (pl (pl (pr h))))))))))
  | 29, _ => exact (pr (pl (pl (pl (pr (pr (pl (pl (pl (pr h))))))))))
  | 30, _ => exact (pl (pr (pl (pl (pr (pr (pl (pl (pl (pr h))))))))))
  | 31, _ => exact (pr (pr (pl (pl (pr (pr (pl (pl (pl (pr h))))))))))
  | 32, _ => exact (pl (pl (pr (pl (pr (pr (pl (pl (pl (pr h))))))))))
  | 33, _ => exact (pr (pl (pr (pl (pr (pr (pl (pl (pl (pr h))))))))))
  | 34, _ => exact (pl (pr (pr (pl (pr (pr (pl (pl (pl (pr h))))))))))
  | 35, _ => exact (pl (pr (pr (pr (pl (pr (pr (pl (pl (pl (pr h)))))))))))
  | 36, _ => exact (pr (pr (pr (pr (pl (pr (pr (pl (pl (pl (pr h)))))))))))
  | 37, _ => exact (pl (pl (pl (pr (pr (pr (pl (pl (pl (pr h))))))))))
  | 38, _ => exact (pr (pl (pl (pr (pr (pr (pl (pl (pl (pr h))))))))))
  | 39, _ => exact (pl (pr (pl (pr (pr (pr (pl (pl (pl (pr h))))))))))
  | 40, _ => exact (pl (pr (pr (pl (pr (pr (pr (pl (pl (pl (pr h)))))))))))
  | k + 41, h3 => exact absurd h3 (by omega)
theorem px_ls {args : Array Value} {s : State} (tb : ∀ {w : Cond}, w ∈ tables_1 → w.before args s = true) : ∀ i, i < 41 → (Cond.laysStatic "LateSet$Sign" (sgN.getD i "") "LLateSet$Sign;").before args s = true := fun i hi => by
  match i, hi with
  | 0, _ => exact tb (tn2 (List.mem_of_getElem? (i := 234) rfl))
  | 1, _ => exact tb (tn2 (List.mem_of_getElem? (i := 166) rfl))
  | 2, _ => exact tb (tn2 (List.mem_of_getElem? (i := 168) rfl))
  | 3, _ => exact tb (tn2 (List.mem_of_getElem? (i := 224) rfl))
  | 4, _ => exact tb (tn3 (List.mem_of_getElem? (i := 174) rfl))
  | 5, _ => exact tb (tn3 (List.mem_of_getElem? (i := 57) rfl))
  | 6, _ => exact tb (tn3 (List.mem_of_getElem? (i := 178) rfl))
  | 7, _ => exact tb (tn3 (List.mem_of_getElem? (i := 180) rfl))
  | 8, _ => exact tb (tn3 (List.mem_of_getElem? (i := 182) rfl))
  | 9, _ => exact tb (tn3 (List.mem_of_getElem? (i := 159) rfl))
  | 10, _ => exact tb (tn3 (List.mem_of_getElem? (i := 184) rfl))
  | 11, _ => exact tb (tn3 (List.mem_of_getElem? (i := 68) rfl))
  | 12, _ => exact tb (tn3 (List.mem_of_getElem? (i := 36) rfl))
  | 13, _ => exact tb (tn3 (List.mem_of_getElem? (i := 44) rfl))
  | 14, _ => exact tb (tn3 (List.mem_of_getElem? (i := 46) rfl))
  | 15, _ => exact tb (tn3 (List.mem_of_getElem? (i := 61) rfl))
  | 16, _ => exact tb (tn3 (List.mem_of_getElem? (i := 63) rfl))
  | 17, _ => exact tb (tn3 (List.mem_of_getElem? (i := 65) rfl))
  | 18, _ => exact tb (tn3 (List.mem_of_getElem? (i := 53) rfl))
  | 19, _ => exact tb (tn3 (List.mem_of_getElem? (i := 55) rfl))
  | 20, _ => exact tb (tn3 (List.mem_of_getElem? (i := 59) rfl))
  | 21, _ => exact tb (tn3 (List.mem_of_getElem? (i := 9) rfl))
  | 22, _ => exact tb (tn1 (List.mem_of_getElem? (i := 104) rfl))
  | 23, _ => exact tb (tn1 (List.mem_of_getElem? (i := 131) rfl))
  | 24, _ => exact tb (tn3 (List.mem_of_getElem? (i := 135) rfl))
  | 25, _ => exact tb (tn3 (List.mem_of_getElem? (i := 137) rfl))
  | 26, _ => exact tb (tn3 (List.mem_of_getElem? (i := 142) rfl))
  | 27, _ => exact tb (tn3 (List.mem_of_getElem? (i := 188) rfl))
  | 28, _ => exact tb (tn3 (List.mem_of_getElem? (i := 186) rfl))
  | 29, _ => exact tb (tn3 (List.mem_of_getElem? (i := 157) rfl))
  | 30, _ => exact tb (tn7 (List.mem_of_getElem? (i := 71) rfl))
  | 31, _ => exact tb (tn7 (List.mem_of_getElem? (i := 72) rfl))
  | 32, _ => exact tb (tn7 (List.mem_of_getElem? (i := 73) rfl))
  | 33, _ => exact tb (tn7 (List.mem_of_getElem? (i := 74) rfl))
  | 34, _ => exact tb (tn3 (List.mem_of_getElem? (i := 42) rfl))
  | 35, _ => exact tb (tn7 (List.mem_of_getElem? (i := 75) rfl))
  | 36, _ => exact tb (tn7 (List.mem_of_getElem? (i := 76) rfl))
  | 37, _ => exact tb (tn7 (List.mem_of_getElem? (i := 77) rfl))
  | 38, _ => exact tb (tn7 (List.mem_of_getElem? (i := 78) rfl))
  | 39, _ => exact tb (tn7 (List.mem_of_getElem? (i := 79) rfl))
  | 40, _ => exact tb (tn7 (List.mem_of_getElem? (i := 80) rfl))
  | k + 41, h3 => exact absurd h3 (by omega)
theorem px_nm {args : Array Value} {s : State} (tb : ∀ {w : Cond}, w ∈ tables_1 → w.before args s = true) : ∀ q ∈ nestM, (Cond.methodLinkNest q.1 q.2.1 q.2.2 "LateSet").before args s = true := List.forall_mem_cons.mpr ⟨tb (tn3 (List.mem_of_getElem? (i := 223) rfl)), List.forall_mem_cons.mpr ⟨tb (tn4 (List.mem_of_getElem? (i := 140) rfl)), List.forall_mem_cons.mpr ⟨tb (tn4 (List.mem_of_getElem? (i := 51) rfl)), List.forall_mem_cons.mpr ⟨tb (tn2 (List.mem_of_getElem? (i := 6) rfl)), List.forall_mem_cons.mpr ⟨tb (tn3 (List.mem_of_getElem? (i := 236) rfl)), fun _ h => absurd h List.not_mem_nil⟩⟩⟩⟩⟩
theorem px_nk {args : Array Value} {s : State} (tb : ∀ {w : Cond}, w ∈ tables_1 → w.before args s = true) : ∀ q ∈ nestK, (Cond.methodLinkNest "LateSet" q.1 q.2 "LateSet").before args s = true := List.forall_mem_cons.mpr ⟨tb (tn1 (List.mem_of_getElem? (i := 32) rfl)), List.forall_mem_cons.mpr ⟨tb (tn1 (List.mem_of_getElem? (i := 43) rfl)), List.forall_mem_cons.mpr ⟨tb (tn1 (List.mem_of_getElem? (i := 62) rfl)), List.forall_mem_cons.mpr ⟨tb (tn1 (List.mem_of_getElem? (i := 150) rfl)), fun _ h => absurd h List.not_mem_nil⟩⟩⟩⟩
theorem px_on : ∀ i, i < 41 → ∀ j, j < 41 → Int32.ofNat i = Int32.ofNat j → i = j := by decide +kernel
def adS (ac : Nat → Nat) (as_ : Nat → Nat × Nat) (t4 t5 b : Nat) (n : Nat) : Nat := if n < 100 then 0 else if n < 200 then ac (n - 100) else if n < 300 then (as_ (n - 200)).1 else if n < 400 then (as_ (n - 300)).2 else if n = 400 then t4 else if n = 402 then t5 else b
theorem adS_1 {ac : Nat → Nat} {as_ : Nat → Nat × Nat} {t4 t5 b i : Nat} (h : i < 100) : adS ac as_ t4 t5 b (100 + i) = ac i := by
  unfold adS; rw [if_neg (by omega), if_pos (by omega), Nat.add_sub_cancel_left]
theorem adS_2 {ac : Nat → Nat} {as_ : Nat → Nat × Nat} {t4 t5 b i : Nat} (h : i < 100) : adS ac as_ t4 t5 b (200 + i) = (as_ i).1 := by
  unfold adS; rw [if_neg (by omega), if_neg (by omega), if_pos (by omega), Nat.add_sub_cancel_left]
theorem adS_3 {ac : Nat → Nat} {as_ : Nat → Nat × Nat} {t4 t5 b i : Nat} (h : i < 100) : adS ac as_ t4 t5 b (300 + i) = (as_ i).2 := by
  unfold adS; rw [if_neg (by omega), if_neg (by omega), if_neg (by omega), if_pos (by omega), Nat.add_sub_cancel_left]
theorem px_Stc {args : Array Value} {s : State} (b : Nat) (h : (Jvm.Cond.and given_1 narrow_1).before args s = true) (hts : ∀ w ∈ lw_tbl, w.before args s = true) : ∃ ad : Nat → Nat, ad 499 = b ∧ Stc ad (fun q => s.heap.size ≤ q) s s.heap ∧ Ldc ad s := by
  have hA : ∀ a : Nat, a < s.heap.size → ¬ (fun q : Nat => s.heap.size ≤ q) a := fun a h1 h2 => Nat.not_le.mpr h1 h2
  have tb : ∀ {w : Cond}, w ∈ tables_1 → w.before args s = true := fun e => hts _ (List.mem_append_right _ e)
  have c0 : ∀ i : Nat, ∃ t : Nat, i < 41 → (Term.static "LateSet$Sign" (sgN.getD i "") "LLateSet$Sign;").eval args s none [] s = some (.ref t) ∧ va_O "LateSet$Sign" t (fun q => s.heap.size ≤ q) s s.heap := by
    intro i
    by_cases hi : i < 41
    · obtain ⟨a, c, cell, k, q1, q2, q3, q4, q5, q6, -⟩ := Cond.exactly_spec (px_ex h i hi)
      exact ⟨a, fun _ => ⟨q1, cell, q3, q5, by rw [q6]; exact q2, hA a (Array.getElem?_eq_some_iff.mp q3).1⟩⟩
    · exact ⟨0, fun h => absurd h hi⟩
  obtain ⟨ac, hac⟩ := Classical.axiomOfChoice c0
  have s0 : ∀ i : Nat, ∃ q : Nat × Nat, i < 46 → (strT i).eval args s none [] s = some (.ref q.1) ∧ va_O "java/lang/String" q.1 (fun q => s.heap.size ≤ q) s s.heap ∧ va_OF "java/lang/String" "coder" "B" (.int 0) q.1 (fun q => s.heap.size ≤ q) s s.heap ∧ va_OF "java/lang/String" "value" "[B" (.ref q.2) q.1 (fun q => s.heap.size ≤ q) s s.heap ∧ va_T .byte q.2 (sgB.getD i []).length (fun j => .int (iI ((sgB.getD i []).getD j 0))) (fun q => s.heap.size ≤ q) s s.heap := by
    intro i
    by_cases hi : i < 46
    · obtain ⟨a, c, cA, kA, q1, q2, q3, q4, q5, q6, -⟩ := Cond.exactly_spec (px_sx h i hi)
      have hN : (sgB.getD i []).length < 2 ^ 31 := by
        have : ∀ i, i < 46 → (sgB.getD i []).length < 2 ^ 31 := by decide +kernel
        exact this i hi
      obtain ⟨t, ht, hT⟩ := va_Tof (f := fun j => .int (iI ((sgB.getD i []).getD j 0))) (A := fun q => s.heap.size ≤ q) hN (px_sa h i hi) (va_eqt (px_sl h i hi)) (fun j hj => va_eqt (px_se h i hi j hj)) hA
      exact ⟨(a, t), fun _ => ⟨q1, ⟨cA, q3, q5, by rw [q6]; exact q2, hA a (Array.getElem?_eq_some_iff.mp q3).1⟩, vk_OFof q1 (va_eqt (px_sc h i hi)) hA, vk_OFof q1 ht hA, hT⟩⟩
    · exact ⟨(0, 0), fun h => absurd h hi⟩
  obtain ⟨as_, has⟩ := Classical.axiomOfChoice s0
  obtain ⟨t4, ht4, hT4⟩ := va_Tof (N := 41) (tm := .static "LateSet" "SIGNS" "[LLateSet$Sign;") (ty := .object "LateSet$Sign") (f := fun j => .ref (ac j)) (A := fun q => s.heap.size ≤ q) (by decide) ((pl (pr (pr (pl (pr (pl (pl (pl (pl (pr h))))))))))) (va_eqt ((pl (pr (pr (pr (pl (pr (pl (pl (pl (pl (pr h))))))))))))) (fun j hj => va_eqv (px_ge h j hj) (hac j hj).1) hA
  have hini : (Cond.initialized "LateSet$Sign").before args s = true := tb (tn1 (List.mem_of_getElem? (i := 7) rfl))
  have hzq := va_Zqof (C := "jdk/internal/util/Preconditions") (n := "SIOOBE_FORMATTER") (d := "Ljava/util/function/BiFunction;") (A := fun q => s.heap.size ≤ q) (tb (tn2 (List.mem_of_getElem? (i := 200) rfl))) (tb (tn1 (List.mem_of_getElem? (i := 15) rfl))) ((pl (pl (pr (pr (pr (pr (pl (pl (pl (pr h))))))))))) hA
  obtain ⟨t5, h5⟩ : ∃ t5 : Nat, va_Z "jdk/internal/util/Preconditions" "SIOOBE_FORMATTER" "Ljava/util/function/BiFunction;" .null (fun q => s.heap.size ≤ q) s s.heap ∨ va_Z "jdk/internal/util/Preconditions" "SIOOBE_FORMATTER" "Ljava/util/function/BiFunction;" (.ref t5) (fun q => s.heap.size ≤ q) s s.heap := by
    rcases hzq with q | ⟨t, q⟩
    · exact ⟨0, Or.inl q⟩
    · exact ⟨t, Or.inr q⟩
  refine ⟨adS ac as_ t4 t5 b, rfl, ⟨fun i hi => ?_, fun i j hi hj e => ?_, fun i hi => ?_, ?_, ?_, ?_, ?_⟩, ⟨⟨?_, ?_, ?_, ?_, ?_⟩, fun q hq => ?_, ?_⟩⟩
  · have e1 : adS ac as_ t4 t5 b (100 + i) = ac i := adS_1 (by omega)
    have e2 : adS ac as_ t4 t5 b (200 + i) = (as_ i).1 := adS_2 (by omega)
    rw [e1, e2]
    exact ⟨va_Zref (px_ls tb i hi) hini (hac i hi).1 hA, (hac i hi).2, vk_OFof (hac i hi).1 (va_eqv (px_wd h i hi) (has i (by omega)).1) hA, vk_OFof (hac i hi).1 (va_eqt (px_lf h i hi)) hA, vk_OFof (hac i hi).1 (va_eqt (px_hf h i hi)) hA⟩
  · rw [adS_1 (i := i) (by omega), adS_1 (i := j) (by omega)] at e
    have q1 := va_eqt (px_od h i hi)
    have q2 := va_eqt (px_od h j hj)
    rw [va_fe (hac i hi).1] at q1
    rw [va_fe (hac j hj).1, ← e] at q2
    have q3 := q1.symm.trans q2
    injection q3 with q4
    injection q4 with q5
    exact px_on i hi j hj q5
  · rw [adS_2 (i := i) (by omega), adS_3 (i := i) (by omega)]
    exact (has i hi).2
  · exact va_Zref (tb (tn2 (List.mem_of_getElem? (i := 170) rfl))) (tb (tn1 (List.mem_of_getElem? (i := 1) rfl))) ht4 hA
  · obtain ⟨cell, z1, z2, z3, z4, z5, z6, z7⟩ := hT4
    exact ⟨cell, z1, z2, z3, z4, z5, fun j hj => by
      show cell.slots[j]? = some (.ref (adS ac as_ t4 t5 b (100 + j)))
      rw [adS_1 (i := j) (by omega)]; exact z6 j hj, z7⟩
  · exact va_Zof (tb (tn2 (List.mem_of_getElem? (i := 184) rfl))) (tb (tn1 (List.mem_of_getElem? (i := 13) rfl))) (va_eqt ((pr (pr (pr (pl (pr (pr (pr (pl (pl (pl (pr h))))))))))))) hA
  · exact h5
  · have e : adS ac as_ t4 t5 b 241 = (as_ 41).1 := adS_2 (i := 41) (by decide)
    rw [e]
    exact vk_R.of (tb (tn4 (List.mem_of_getElem? (i := 19) rfl))) (has 41 (by decide)).1
  · have e : adS ac as_ t4 t5 b 242 = (as_ 42).1 := adS_2 (i := 42) (by decide)
    rw [e]
    exact vk_R.of (tb (tn4 (List.mem_of_getElem? (i := 26) rfl))) (has 42 (by decide)).1
  · have e : adS ac as_ t4 t5 b 243 = (as_ 43).1 := adS_2 (i := 43) (by decide)
    rw [e]
    exact vk_R.of (tb (tn4 (List.mem_of_getElem? (i := 27) rfl))) (has 43 (by decide)).1
  · have e : adS ac as_ t4 t5 b 244 = (as_ 44).1 := adS_2 (i := 44) (by decide)
    rw [e]
    exact vk_R.of (tb (tn4 (List.mem_of_getElem? (i := 28) rfl))) (has 44 (by decide)).1
  · have e : adS ac as_ t4 t5 b 245 = (as_ 45).1 := adS_2 (i := 45) (by decide)
    rw [e]
    exact vk_R.of (tb (tn4 (List.mem_of_getElem? (i := 29) rfl))) (has 45 (by decide)).1
  · exact va_Nw.of rfl (px_nm tb q hq)
  · exact va_Nw.of rfl (tb (tn2 (List.mem_of_getElem? (i := 169) rfl)))
theorem px_NF {args : Array Value} {s : State} {ad : Nat → Nat} (hSt : Stc ad (fun q => s.heap.size ≤ q) s s.heap) (hts : ∀ w ∈ lw_tbl, w.before args s = true) : NF (fun q => s.heap.size ≤ q) (ad 122) (ad 123) s s.heap := by
  have tb : ∀ {w : Cond}, w ∈ tables_1 → w.before args s = true := fun e => hts _ (List.mem_append_right _ e)
  refine ⟨⟨va_AOA.of (tb (tn1 (List.mem_of_getElem? (i := 48) rfl))), va_AO.of (tb (tn1 (List.mem_of_getElem? (i := 67) rfl)))⟩, ⟨(hSt.1 22 (by decide)).1, (hSt.1 23 (by decide)).1⟩, fun q hq => ?_⟩
  exact va_Nw.of rfl (px_nk tb q hq)

/-! words compared with their codes byte by byte in a row -/
def weqBytes (a b : ByteArray) : Bool := decide (a.data.toList = b.data.toList)
theorem weqBytes_ok {a b : ByteArray} (h : weqBytes a b = true) : a = b := by
  have h1 : a.data.toList = b.data.toList := of_decide_eq_true h
  cases a with
  | mk x =>
    cases b with
    | mk y => exact congrArg ByteArray.mk (Array.toList_inj.mp h1)
def wcode : Cond → Option (MethodName × ByteArray × Nat × Option FieldType)
  | .code y c n r => some (y, c, n, r)
  | _ => none
theorem wcode_s {w : Cond} {y : MethodName} {c : ByteArray} {n : Nat} {r : Option FieldType} (h : wcode w = some (y, c, n, r)) : w = .code y c n r := by
  cases w <;> first | (simp [wcode] at h; done) | (simp only [wcode, Option.some.injEq, Prod.mk.injEq] at h; obtain ⟨rfl, rfl, rfl, rfl⟩ := h; rfl)
def weq (w v : Cond) : Bool :=
  match wcode w, wcode v with
  | some (y, c, n, r), some (y', c', n', r') => decide (y = y') && weqBytes c c' && decide (n = n') && decide (r = r')
  | none, none => decide (w = v)
  | _, _ => false
theorem weq_ok {w v : Cond} (h : weq w v = true) : w = v := by
  unfold weq at h
  cases e1 : wcode w with
  | none =>
    cases e2 : wcode v with
    | none => rw [e1, e2] at h; exact of_decide_eq_true h
    | some q => rw [e1, e2] at h; exact absurd h (by simp)
  | some p =>
    obtain ⟨y, c, n, r⟩ := p
    cases e2 : wcode v with
    | none => rw [e1, e2] at h; exact absurd h (by simp)
    | some q =>
      obtain ⟨y', c', n', r'⟩ := q
      rw [e1, e2] at h
      simp only [Bool.and_eq_true, decide_eq_true_eq] at h
      obtain ⟨⟨⟨h1, h2⟩, h3⟩, h4⟩ := h
      rw [wcode_s e1, wcode_s e2, h1, weqBytes_ok h2, h3, h4]
def weqs : List Cond → List Cond → Bool
  | [], [] => true
  | w :: l, v :: l' => weq w v && weqs l l'
  | _, _ => false
theorem weqs_ok : ∀ {l l' : List Cond}, weqs l l' = true → l = l'
  | [], [], _ => rfl
  | [], _ :: _, h => by simp [weqs] at h
  | _ :: _, [], h => by simp [weqs] at h
  | w :: l, v :: l', h => by
    simp only [weqs, Bool.and_eq_true] at h
    rw [weq_ok h.1, weqs_ok h.2]
theorem goodIn_rB {big : List Cond} (ws : List Cond) (ps : List Nat) (hp : weqs ws (ps.filterMap (fun i => big[i]?)) = true) (h : ws.all goodWord = true) : GoodIn big ws := goodIn_r ws ps (weqs_ok hp) h
theorem goodIn_pB {big : List Cond} (ws : List Cond) (ps : List Nat) (hp : weqs (ws.filter k2_isCode) (ps.filterMap (fun i => big[i]?)) = true) (h : (ws.filter (fun w => !k2_isCode w)).all (fun w => decide (w ∈ big) && goodWord w) = true) : GoodIn big ws := goodIn_p ws ps (weqs_ok hp) h

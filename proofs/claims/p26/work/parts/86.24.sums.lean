def mT (t : zM) : Prop := ∃ T, T ≤ 60 ∧ t 0 7 = nI T
def lX7_locked_4 (t : zM) : Nat → Nat → Int32 → Int32
  | 0, _, _ => 0
  | j + 1, k, v => (if (t (1) 401) ≤ nI k then v else (lX7_locked_4 t j (k + 1) (v + (t (1) (14 * k + 6)))))
def rX7_locked (t : zM)  : Int32 := (lX7_locked_4 t 25 0 0)
def lX7_signed_4 (t : zM) (a1 : Int32) : Nat → Nat → Int32 → Int32
  | 0, _, _ => 0
  | j + 1, k, v => (if (t (1) 401) ≤ nI k then v else (if (a1 * (t (1) (14 * k + 4))) ≤ 0 then (lX7_signed_4 t a1 j (k + 1) (v + 0)) else (lX7_signed_4 t a1 j (k + 1) (v + 1))))
def rX7_signed (t : zM) (a1 : Int32) : Int32 := (lX7_signed_4 t a1 25 0 0)
def lX7_balances_6 (t : zM) : Nat → Nat → Int32 → Int32
  | 0, _, _ => 0
  | j + 1, k, v => (if (t (1) 401) ≤ nI k then v else (lX7_balances_6 t j (k + 1) (v + (t (1) (14 * k + 4)))))
def rX7_balances (t : zM)  : Int32 := (lX7_balances_6 t 25 0 10000)
def lX7_wronged_26 (t : zM) (a1 : Int32) (k : Nat) : Nat → Nat → Int32 → Int32
  | 0, _, _ => 0
  | j9 + 1, j, v => (if (t (1) 401) ≤ nI j then v else (if 0 < ((t (1) (14 * j + 4)) - (t (1) (14 * k + 4))) then (lX7_wronged_26 t a1 k j9 (j + 1) (v + 1)) else (if ((t (1) (14 * j + 4)) - (t (1) (14 * k + 4))) = 0 then (if nI k ≤ nI j then (lX7_wronged_26 t a1 k j9 (j + 1) (v + 0)) else (lX7_wronged_26 t a1 k j9 (j + 1) (v + 1))) else (lX7_wronged_26 t a1 k j9 (j + 1) (v + 0)))))
def lX7_wronged_9 (t : zM) (a1 : Int32) : Nat → Nat → Int32
  | 0, _ => 0
  | i9 + 1, k => (if (t (1) 401) ≤ nI k then (-1000004) else (if (lX7_wronged_26 t a1 k 25 0 0) = a1 then nI k else (lX7_wronged_9 t a1 i9 (k + 1))))
def rX7_wronged (t : zM) (a1 : Int32) : Int32 := (if 0 ≤ a1 then (lX7_wronged_9 t a1 25 0) else (-1000001))
def rX7_count (t : zM) (a1 : Int32) : Int32 := (if a1 = 0 then (t (1) 400) else (if a1 = 1 then (t (1) 401) else (if a1 = 2 then (rX7_locked t) else (if a1 = 3 then (t (1) 402) else (if a1 = 4 then (t (1) 403) else (if a1 = 5 then (t (1) 404) else (if a1 = 6 then (t (1) 405) else (if a1 = 7 then (t (1) 406) else (if a1 = 8 then (t (1) 407) else (if a1 = 9 then (rX7_signed t 1) else (if a1 = 10 then (rX7_signed t (-1)) else (if a1 = 11 then (rX7_balances t) else (if a1 = 12 then (((10000 + (100 * (t (1) 403))) - (t (1) 405)) - (100 * (t (1) 406))) else (if a1 = 13 then (t (1) 408) else (if a1 = 14 then (t (1) 409) else (if a1 = 15 then (t (0) 4) else (if a1 = 16 then (t (0) 7) else (if a1 = 17 then (-1000001) else (if a1 = 18 then (-1000001) else (if a1 = 19 then (-1000001) else (if a1 = 20 then (t (1) 410) else (if a1 = 21 then (t (1) 411) else (if a1 = 22 then (t (1) 412) else (if a1 = 23 then (t (1) 413) else (-1000001)))))))))))))))))))))))))

/-! the law's loop -/
theorem and31 (x : Int32) : ∃ w, w < 32 ∧ x &&& 31 = nI w := by
  refine ⟨(x &&& 31).toBitVec.toNat, ?_, ?_⟩
  · have e : (x &&& 31).toBitVec = x.toBitVec &&& 31#32 := rfl
    rw [e, BitVec.toNat_and]
    exact Nat.lt_of_le_of_lt Nat.and_le_right (by decide)
  · apply Int32.toBitVec_inj.mp
    show (x &&& 31).toBitVec = BitVec.ofNat 32 (x &&& 31).toBitVec.toNat
    simp
section ZLL
variable {p : Program} {l : Launch} {e : Env} {s : State} {m : MethodId} {b : Nat} {below : List Frame} {meth : Method} {c : Code} {N : Nat} {xs : Nat → Int32} {D : va_G} {cy : Nat → ClassId} {ad1 ad2 : Nat → Nat}
set_option maxRecDepth 20000 in
theorem law_sw (C : zLC p s m b meth c N xs D cy ad1 ad2) {i : Nat} {t u : zM} (hi : i + 2 < N) (hR : zRl t u) (kk : ∀ t1 u1, zRl t1 u1 → Zl p l e s m b below meth c D cy ad1 ad2 745 i [] t1 u1) : ∀ w, w < 32 → Zl p l e s m b below meth c D cy ad1 ad2 32 i [.int (nI w)] t u := by
  intro w hw H locs la hP1 hP2 hS hl
  by_cases q : w < 23
  · rcases (show w = 0 ∨ w = 1 ∨ w = 2 ∨ w = 3 ∨ w = 4 ∨ w = 5 ∨ w = 6 ∨ w = 7 ∨ w = 8 ∨ w = 9 ∨ w = 10 ∨ w = 11 ∨ w = 12 ∨ w = 13 ∨ w = 14 ∨ w = 15 ∨ w = 16 ∨ w = 17 ∨ w = 18 ∨ w = 19 ∨ w = 20 ∨ w = 21 ∨ w = 22 by omega) with rfl | rfl | rfl | rfl | rfl | rfl | rfl | rfl | rfl | rfl | rfl | rfl | rfl | rfl | rfl | rfl | rfl | rfl | rfl | rfl | rfl | rfl | rfl
    · exact lv_tableIn (off := 108) (tgt := 140) C.1.1 C.1.2.1 dL_law_32 (by decide +kernel) (by decide +kernel) (by decide +kernel) (by decide) (law_0 C hi hR kk H locs la hP1 hP2 hS hl)
    · exact lv_tableIn (off := 141) (tgt := 173) C.1.1 C.1.2.1 dL_law_32 (by decide +kernel) (by decide +kernel) (by decide +kernel) (by decide) (law_1 C hi hR kk H locs la hP1 hP2 hS hl)
    · exact lv_tableIn (off := 174) (tgt := 206) C.1.1 C.1.2.1 dL_law_32 (by decide +kernel) (by decide +kernel) (by decide +kernel) (by decide) (law_2 C hi hR kk H locs la hP1 hP2 hS hl)
    · exact lv_tableIn (off := 223) (tgt := 255) C.1.1 C.1.2.1 dL_law_32 (by decide +kernel) (by decide +kernel) (by decide +kernel) (by decide) (law_3 C hi hR kk H locs la hP1 hP2 hS hl)
    · exact lv_tableIn (off := 246) (tgt := 278) C.1.1 C.1.2.1 dL_law_32 (by decide +kernel) (by decide +kernel) (by decide +kernel) (by decide) (law_4 C hi hR kk H locs la hP1 hP2 hS hl)
    · exact lv_tableIn (off := 269) (tgt := 301) C.1.1 C.1.2.1 dL_law_32 (by decide +kernel) (by decide +kernel) (by decide +kernel) (by decide) (law_5 C hi hR kk H locs la hP1 hP2 hS hl)
    · exact lv_tableIn (off := 292) (tgt := 324) C.1.1 C.1.2.1 dL_law_32 (by decide +kernel) (by decide +kernel) (by decide +kernel) (by decide) (law_6 C hi hR kk H locs la hP1 hP2 hS hl)
    · exact lv_tableIn (off := 325) (tgt := 357) C.1.1 C.1.2.1 dL_law_32 (by decide +kernel) (by decide +kernel) (by decide +kernel) (by decide) (law_7 C hi hR kk H locs la hP1 hP2 hS hl)
    · exact lv_tableIn (off := 358) (tgt := 390) C.1.1 C.1.2.1 dL_law_32 (by decide +kernel) (by decide +kernel) (by decide +kernel) (by decide) (law_8 C hi hR kk H locs la hP1 hP2 hS hl)
    · exact lv_tableIn (off := 391) (tgt := 423) C.1.1 C.1.2.1 dL_law_32 (by decide +kernel) (by decide +kernel) (by decide +kernel) (by decide) (law_9 C hi hR kk H locs la hP1 hP2 hS hl)
    · exact lv_tableIn (off := 424) (tgt := 456) C.1.1 C.1.2.1 dL_law_32 (by decide +kernel) (by decide +kernel) (by decide +kernel) (by decide) (law_10 C hi hR kk H locs la hP1 hP2 hS hl)
    · exact lv_tableIn (off := 457) (tgt := 489) C.1.1 C.1.2.1 dL_law_32 (by decide +kernel) (by decide +kernel) (by decide +kernel) (by decide) (law_11 C hi hR kk H locs la hP1 hP2 hS hl)
    · exact lv_tableIn (off := 480) (tgt := 512) C.1.1 C.1.2.1 dL_law_32 (by decide +kernel) (by decide +kernel) (by decide +kernel) (by decide) (law_12 C hi hR kk H locs la hP1 hP2 hS hl)
    · exact lv_tableIn (off := 513) (tgt := 545) C.1.1 C.1.2.1 dL_law_32 (by decide +kernel) (by decide +kernel) (by decide +kernel) (by decide) (law_13 C hi hR kk H locs la hP1 hP2 hS hl)
    · exact lv_tableIn (off := 536) (tgt := 568) C.1.1 C.1.2.1 dL_law_32 (by decide +kernel) (by decide +kernel) (by decide +kernel) (by decide) (law_14 C hi hR kk H locs la hP1 hP2 hS hl)
    · exact lv_tableIn (off := 559) (tgt := 591) C.1.1 C.1.2.1 dL_law_32 (by decide +kernel) (by decide +kernel) (by decide +kernel) (by decide) (law_15 C hi hR kk H locs la hP1 hP2 hS hl)
    · exact lv_tableIn (off := 592) (tgt := 624) C.1.1 C.1.2.1 dL_law_32 (by decide +kernel) (by decide +kernel) (by decide +kernel) (by decide) (law_16 C hi hR kk H locs la hP1 hP2 hS hl)
    · exact lv_tableIn (off := 605) (tgt := 637) C.1.1 C.1.2.1 dL_law_32 (by decide +kernel) (by decide +kernel) (by decide +kernel) (by decide) (law_17 C hi hR kk H locs la hP1 hP2 hS hl)
    · exact lv_tableIn (off := 628) (tgt := 660) C.1.1 C.1.2.1 dL_law_32 (by decide +kernel) (by decide +kernel) (by decide +kernel) (by decide) (law_18 C hi hR kk H locs la hP1 hP2 hS hl)
    · exact lv_tableIn (off := 641) (tgt := 673) C.1.1 C.1.2.1 dL_law_32 (by decide +kernel) (by decide +kernel) (by decide +kernel) (by decide) (law_19 C hi hR kk H locs la hP1 hP2 hS hl)
    · exact lv_tableIn (off := 664) (tgt := 696) C.1.1 C.1.2.1 dL_law_32 (by decide +kernel) (by decide +kernel) (by decide +kernel) (by decide) (law_20 C hi hR kk H locs la hP1 hP2 hS hl)
    · exact lv_tableIn (off := 677) (tgt := 709) C.1.1 C.1.2.1 dL_law_32 (by decide +kernel) (by decide +kernel) (by decide +kernel) (by decide) (law_21 C hi hR kk H locs la hP1 hP2 hS hl)
    · exact lv_tableIn (off := 700) (tgt := 732) C.1.1 C.1.2.1 dL_law_32 (by decide +kernel) (by decide +kernel) (by decide +kernel) (by decide) (law_22 C hi hR kk H locs la hP1 hP2 hS hl)
  · exact lv_tableOut (tgt := 745) C.1.1 C.1.2.1 dL_law_32 (Or.inr (by rw [nI_toInt (by omega)]; omega)) (by decide) (kk t u hR H locs la hP1 hP2 hS hl)
theorem law_loop (C : zLC p s m b meth c N xs D cy ad1 ad2) : ∀ (j i : Nat) (t u : zM), i ≤ N → N < i + j → zRl t u → Zl p l e s m b below meth c D cy ad1 ad2 18 i [] t u := by
  intro j
  induction j with
  | zero => intro i t u hi hj; omega
  | succ j ih =>
    intro i t u hi hj hR H locs la hP1 hP2 hS hl
    have hN := C.2.2.2.2.2.2.2.2.2.2.2
    refine lv_iload_n C.1.1 C.1.2.1 dL_law_18 rfl (lv_at hl 0 rfl) ?_
    refine lv_aload_n C.1.1 C.1.2.1 dL_law_19 rfl (lv_at hl 3 rfl) ?_
    refine va_slen C.1.1 C.1.2.1 C.2.2.2.2.1 C.2.2.2.2.2.1 (zLbA C.2.2.2.2.2.1) hS dL_law_20 ?_
    refine lv_iconst (v := 3) C.1.1 C.1.2.1 dL_law_21 (by decide +kernel) ?_
    refine lv_isub C.1.1 C.1.2.1 dL_law_22 ?_
    have e1 : (Int32.ofNat N) - 3 = Int32.ofInt ((N : Int) - 3) := by
      show nI N - 3 = _
      rw [zoI, show (3 : Int32) = Int32.ofInt 3 from by decide +kernel, ← Int32.ofInt_sub]
    rw [e1]
    refine lv_icmp_gt (tgt := 751) C.1.1 C.1.2.1 dL_law_23 (by decide) (fun q => ?_) (fun q => ?_)
    · refine lv_iconst (v := 1) C.1.1 C.1.2.1 dL_law_751 (by decide +kernel) ?_
      refine va_forget (fun x h => hS.2.2 x h) ?_
      refine W.base ?_
      exact lw_ret (Drawn.sameBut.refl s.drawn lw_cs) C.1.1 C.1.2.1 C.2.2.2.2.2.2.2.2.2.1 C.2.2.2.2.2.2.2.2.2.2.1 dL_law_752
    · have hi2 : i + 2 < N := by
        rw [zoI, zoT (by omega) (by omega) (by omega) (by omega)] at q
        omega
      refine lv_aload_n C.1.1 C.1.2.1 dL_law_26 rfl (lv_at hl 3 rfl) ?_
      refine lv_iload_n C.1.1 C.1.2.1 dL_law_27 rfl (lv_at hl 0 rfl) ?_
      refine va_sld C.1.1 C.1.2.1 C.2.2.2.2.1 C.2.2.2.2.2.1 (zLbA C.2.2.2.2.2.1) hS (vp_in_nI (show i < N by omega) (by omega)) dL_law_28 ?_
      rw [nI_clamp (by omega)]
      refine lv_bipush (v := 31) C.1.1 C.1.2.1 dL_law_29 (by decide +kernel) ?_
      refine lv_iand C.1.1 C.1.2.1 dL_law_31 ?_
      obtain ⟨w, hw, ew⟩ := and31 (xs i)
      rw [ew]
      refine law_sw C hi2 hR (fun t1 u1 hR1 => ?_) w hw H locs la hP1 hP2 hS hl
      intro H2 locs2 la2 hP1 hP2 hS hl
      refine lv_iinc (v := nI (i + 3)) C.1.1 C.1.2.1 dL_law_745 hl (k := 0) rfl (by show nI i + nI 3 = _; exact nI_add i 3) (by decide) rfl (fun la3 hl => ?_)
      exact lv_goto (tgt := 18) C.1.1 C.1.2.1 dL_law_748 (by decide) (ih (i + 3) t1 u1 (by omega) (by omega) hR1 H2 locs2 la3 hP1 hP2 hS hl)
end ZLL

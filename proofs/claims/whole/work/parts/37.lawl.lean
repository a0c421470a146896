section LAWP
variable {p : Program} {l : Launch} {e : Env} {s : State} {m : MethodId} {below : List Frame} {meth : Method} {c : Code} {b L : Nat} {xs : Nat → Int32} {D : va_G} {cI cT cL : ClassId} {x0 tx ta : Nat} {tq cq : Nat → Nat} {m0 a1 a2 a3 a4 a5 a6 ou : Nat} {N C : Nat} {f S Wr O Lv : Nat → Int32} {G : Nat → Nat → Int32} {th si : Int32} {f1 f2 f3 f4 f5 f6 : Nat → Int32} {fo : Nat → Int64} {H : Heap} {locs : List Loc} {i : Nat} {ls : Array Slot}
set_option maxHeartbeats 4000000 in
theorem lw_op0 (K0 : lw_Cx p l s m c b L xs D cI cT cL) (hN : lw_N p l e s m below meth c b D cI cT cL x0 tx ta tq cq m0 a1 a2 a3 a4 a5 a6 ou i) (hR : lwR N C f S Wr O Lv G f1 f2 f3 f4 f5) (hP : va_P D tbCl (lwW x0 tx ta tq cq cI cT cL m0 a1 a2 a3 a4 a5 a6 ou (nI N) (nI C) f S Wr O Lv G th (nI C) (nI N) si f1 f2 f3 f4 f5 f6 fo) H) (hD : va_D (fun q => s.heap.size ≤ q) (lwW x0 tx ta tq cq cI cT cL m0 a1 a2 a3 a4 a5 a6 ou (nI N) (nI C) f S Wr O Lv G th (nI C) (nI N) si f1 f2 f3 f4 f5 f6 fo)) (hS : va_S (fun q => s.heap.size ≤ q) s.heap H locs) (hi : i + 5 ≤ L) (hl : lv_has ls 7 [(4, .int (nI i)), (0, .ref b), (1, .ref x0), (2, .ref m0), (3, .ref ou)]) : W p l e room_1 s m #[Value.ref b] below meth c H locs (27 + i) (22271 + 6 * i) (lw_Z below #[Value.ref b] s) (F0 m 88 ls []) := by
  have hl9 : l.stackTraces = false := K0.2.2.2.2.2.2.2.2.2.2.2.2
  by_cases h : tt_isNum (xs (i + 1)) = 0 ∨ tt_isNum (xs (i + 2)) = 0 ∨ tt_isNum (xs (i + 3)) = 0 ∨ 1024 ≤ nI N
  · exact lw_put_r K0 hN hR hP hD hS hi hl [(x0, .inr (1, [.ref tx, .int (nI N), .ref ta, .int (nI C)]))] _ (-1) 1 20 (by decide) (by decide) rfl (hP.sub [0] rfl) (kB_put_no l D cI cT x0 tx ta (nI N) (nI C) _ _ _ h) 1 20 (by decide) (by decide) (fun sz => kM_put_no l D sz cI m0 a1 a2 a3 a4 a5 a6 th (nI C) (nI N) si f1 f2 f3 f4 f5 f6 _ _ _ (lc_put hR.1 h))
  · obtain ⟨h1, h2, h3, h4⟩ := lc_put2 hR.1 h
    exact lw_put_ok K0 hN hR hP hD hS hi hl h1 h2 h3 h4

set_option maxHeartbeats 4000000 in
theorem lw_op1 (K0 : lw_Cx p l s m c b L xs D cI cT cL) (hN : lw_N p l e s m below meth c b D cI cT cL x0 tx ta tq cq m0 a1 a2 a3 a4 a5 a6 ou i) (hR : lwR N C f S Wr O Lv G f1 f2 f3 f4 f5) (hP : va_P D tbCl (lwW x0 tx ta tq cq cI cT cL m0 a1 a2 a3 a4 a5 a6 ou (nI N) (nI C) f S Wr O Lv G th (nI C) (nI N) si f1 f2 f3 f4 f5 f6 fo) H) (hD : va_D (fun q => s.heap.size ≤ q) (lwW x0 tx ta tq cq cI cT cL m0 a1 a2 a3 a4 a5 a6 ou (nI N) (nI C) f S Wr O Lv G th (nI C) (nI N) si f1 f2 f3 f4 f5 f6 fo)) (hS : va_S (fun q => s.heap.size ≤ q) s.heap H locs) (hi : i + 5 ≤ L) (hl : lv_has ls 7 [(4, .int (nI i)), (0, .ref b), (1, .ref x0), (2, .ref m0), (3, .ref ou)]) : W p l e room_1 s m #[Value.ref b] below meth c H locs (27 + i) (22271 + 6 * i) (lw_Z below #[Value.ref b] s) (F0 m 137 ls []) := by
  have hl9 : l.stackTraces = false := K0.2.2.2.2.2.2.2.2.2.2.2.2
  by_cases h : C < 8 ∧ mm_is (xs (i + 1)) ∧ (xs (i + 2) = 0 ∨ xs (i + 2) = 1 ∨ xs (i + 2) = 2) ∧ (xs (i + 3) = 0 ∨ xs (i + 3) = 1) ∧ nI N = xs (i + 1) * xs (i + 1)
  · obtain ⟨hC8, his, hw, hf, hn⟩ := h
    obtain ⟨k, hk, es⟩ := cn_pow his
    have hN2 : N = 2 ^ k * 2 ^ k := lc_sq hR.1 hk (by rw [← es]; exact hn)
    have his2 : mm_is (nI (2 ^ k)) := by rw [← es]; exact his
    refine lw_add_ok K0 hN hR hP hD hS hi hl hC8 k hk hN2 hw hf ?_ 0 0 (by decide) (by decide) ?_
    · intro sz
      rw [es, hN2]
      exact kB_add_ok l D sz cI cT x0 tx ta f (G C) tq cq C hC8 (S C) (Wr C) (O C) (Lv C) k hk _ _ (cn_side.mpr his2) (cn_wrap.mpr hw) (cn_soft.mpr hf)
    · intro sz
      rw [es, hN2]
      exact kM_add_ok l D sz cI m0 a1 a2 a3 a4 a5 a6 th si f1 f2 f3 f4 f5 f6 C k hC8 hk _ _ his2 (lc_w hw).1 (lc_w hw).2 (lc_f hf).1 (lc_f hf).2
  · obtain ⟨q1, q2⟩ := lc_add hR.2.1 h
    refine lw_add_no K0 hN hR hP hD hS hi hl q1 0 0 (by decide) (by decide) ?_
    intro sz
    rcases q2 with q2 | ⟨q2, q3⟩
    · exact kM_add_no1 l D sz cI m0 a1 a2 a3 a4 a5 a6 th (nI C) (nI N) si f1 f2 f3 f4 f5 f6 _ _ _ q2
    · exact kM_add_no2 l D sz cI m0 a1 a2 a3 a4 a5 a6 th (nI C) (nI N) si f1 f2 f3 f4 f5 f6 _ _ _ q2 q3

set_option maxHeartbeats 4000000 in
theorem lw_op3 (K0 : lw_Cx p l s m c b L xs D cI cT cL) (hN : lw_N p l e s m below meth c b D cI cT cL x0 tx ta tq cq m0 a1 a2 a3 a4 a5 a6 ou i) (hR : lwR N C f S Wr O Lv G f1 f2 f3 f4 f5) (hP : va_P D tbCl (lwW x0 tx ta tq cq cI cT cL m0 a1 a2 a3 a4 a5 a6 ou (nI N) (nI C) f S Wr O Lv G th (nI C) (nI N) si f1 f2 f3 f4 f5 f6 fo) H) (hD : va_D (fun q => s.heap.size ≤ q) (lwW x0 tx ta tq cq cI cT cL m0 a1 a2 a3 a4 a5 a6 ou (nI N) (nI C) f S Wr O Lv G th (nI C) (nI N) si f1 f2 f3 f4 f5 f6 fo)) (hS : va_S (fun q => s.heap.size ≤ q) s.heap H locs) (hi : i + 5 ≤ L) (hl : lv_has ls 7 [(4, .int (nI i)), (0, .ref b), (1, .ref x0), (2, .ref m0), (3, .ref ou)]) : W p l e room_1 s m #[Value.ref b] below meth c H locs (27 + i) (22271 + 6 * i) (lw_Z below #[Value.ref b] s) (F0 m 197 ls []) := by
  have hl9 : l.stackTraces = false := K0.2.2.2.2.2.2.2.2.2.2.2.2
  by_cases c1 : tt_has (nI C) (xs (i + 1)) = 0
  · exact lw_level_x K0 hN hR hP hD hS hi hl [(x0, .inr (1, [.ref tx, .int (nI N), .ref ta, .int (nI C)]))] 1 0 si f6 (by decide) (hP.sub [0] rfl) (kL_level_ns l D cI cT _ x0 ou _ _ _ _ rfl (kB_level_none l hl9 D cI cT x0 tx ta (nI N) (nI C) _ (cn_has.mp c1) _ _)) 1 21 (by decide) (by decide) (fun sz => kM_level_none l D sz cI m0 a1 a2 a3 a4 a5 a6 th (nI C) (nI N) si f1 f2 f3 f4 f5 f6 _ _ _ c1)
  · obtain ⟨j, hj, ej⟩ := cn_there hR.2.1 (fun q => c1 (cn_has.mpr q))
    obtain ⟨k, hk, eS, e1, eW, hw, eO, hf, eL, h, eG, hh⟩ := hR.2.2.2 j hj
    have hj8 : j < 8 := Nat.lt_of_lt_of_le hj hR.2.1
    have hth : ¬ tt_has (nI C) (nI j) = 0 := by rw [← ej]; exact c1
    have eSf : S j = f1 j := eS.trans e1.symm
    by_cases c2 : (((xs (i + 2)).toInt64 <<< ((32 : Int32).toInt64 &&& 63)) ||| ((xs (i + 3)).toInt64 &&& 4294967295)) < 0 ∨ ¬ (((xs (i + 2)).toInt64 <<< ((32 : Int32).toInt64 &&& 63)) ||| ((xs (i + 3)).toInt64 &&& 4294967295)) ≤ 1099511627776 ∨ xs (i + 4) < 1 ∨ ¬ xs (i + 4) ≤ 16777216
    · refine lw_level_x K0 hN hR hP hD hS hi hl [(x0, .inr (1, [.ref tx, .int (nI N), .ref ta, .int (nI C)])), (ta, .inl (cT, 8, .inr (.inr (.inr (.inr (fun j => some (tq j))))))), (tq j, .inr (0, [.ref (cq j), .int (S j), .int (Wr j), .int (O j), .int (Lv j)])), (cq j, .inl (cI, 1365, .inl (G j)))] 2 0 si f6 (by decide) (lw_subj hP hj8) ?_ 1 21 (by decide) (by decide) (fun sz => kM_level_bad l D sz cI m0 a1 a2 a3 a4 a5 a6 th (nI C) (nI N) si f1 f2 f3 f4 f5 f6 _ _ _ c1 c2)
      rw [ej]
      exact kL_level_ia l D cI cT _ x0 ou _ _ _ _ rfl (kB_level_bad l hl9 D cI cT x0 tx ta (nI N) C tq cq j hR.2.1 hj (S j) (Wr j) (O j) (Lv j) (G j) _ _ c2)
    · have d1 : ¬ (((xs (i + 2)).toInt64 <<< ((32 : Int32).toInt64 &&& 63)) ||| ((xs (i + 3)).toInt64 &&& 4294967295)) < 0 := fun q => c2 (Or.inl q)
      have d2 : (((xs (i + 2)).toInt64 <<< ((32 : Int32).toInt64 &&& 63)) ||| ((xs (i + 3)).toInt64 &&& 4294967295)) ≤ 1099511627776 := Classical.byContradiction fun q => c2 (Or.inr (Or.inl q))
      have d3 : ¬ xs (i + 4) < 1 := fun q => c2 (Or.inr (Or.inr (Or.inl q)))
      have d4 : xs (i + 4) ≤ 16777216 := Classical.byContradiction fun q => c2 (Or.inr (Or.inr (Or.inr q)))
      have hPW := lw_subj hP hj8
      rw [eL] at hPW
      refine lw_level_o K0 hN hR hP hD hS hi hl _ (tt_lf (((((xs (i + 2)).toInt64 <<< ((32 : Int32).toInt64 &&& 63)) ||| ((xs (i + 3)).toInt64 &&& 4294967295)) * (S j).toInt64) * (S j).toInt64) (nI k) 8 ((xs (i + 4)).toInt64 * 16777216) 0) si f6 hPW ?_ 1 23 (by decide) (by decide) ?_
      · intro sz
        rw [ej]
        exact kL_level_ok l D sz cI cT cL _ x0 ou _ fo _ _ _ _ 1 30 (by decide) (by decide) rfl (kB_level_ok l D cI cT x0 tx ta (nI N) C tq cq j hR.2.1 hj (S j) (Wr j) (O j) k (by omega) (G j) _ _ d1 d2 d3 d4)
      · intro sz
        have h9 := kM_level_ok l D sz cI m0 a1 a2 a3 a4 a5 a6 th (nI C) (nI N) si f1 f2 f3 f4 f5 f6 j k hj8 hk e1 hth _ _ d1 d2 d3 d4
        rw [← eSf] at h9
        rw [ej]
        exact h9

set_option maxHeartbeats 4000000 in
theorem lw_op4 (K0 : lw_Cx p l s m c b L xs D cI cT cL) (hN : lw_N p l e s m below meth c b D cI cT cL x0 tx ta tq cq m0 a1 a2 a3 a4 a5 a6 ou i) (hR : lwR N C f S Wr O Lv G f1 f2 f3 f4 f5) (hP : va_P D tbCl (lwW x0 tx ta tq cq cI cT cL m0 a1 a2 a3 a4 a5 a6 ou (nI N) (nI C) f S Wr O Lv G th (nI C) (nI N) si f1 f2 f3 f4 f5 f6 fo) H) (hD : va_D (fun q => s.heap.size ≤ q) (lwW x0 tx ta tq cq cI cT cL m0 a1 a2 a3 a4 a5 a6 ou (nI N) (nI C) f S Wr O Lv G th (nI C) (nI N) si f1 f2 f3 f4 f5 f6 fo)) (hS : va_S (fun q => s.heap.size ≤ q) s.heap H locs) (hi : i + 5 ≤ L) (hl : lv_has ls 7 [(4, .int (nI i)), (0, .ref b), (1, .ref x0), (2, .ref m0), (3, .ref ou)]) : W p l e room_1 s m #[Value.ref b] below meth c H locs (27 + i) (22271 + 6 * i) (lw_Z below #[Value.ref b] s) (F0 m 309 ls []) := by
  have hl9 : l.stackTraces = false := K0.2.2.2.2.2.2.2.2.2.2.2.2
  by_cases c1 : tt_has (nI C) (xs (i + 1)) = 0
  · exact lw_lookUp_x K0 hN hR hP hD hS hi hl [(x0, .inr (1, [.ref tx, .int (nI N), .ref ta, .int (nI C)]))] 1 0 si f6 (by decide) (hP.sub [0] rfl) (kL_lookUp_ns l D cI cT _ x0 ou _ _ _ _ _ rfl (kB_lookUp_none l hl9 D cI cT x0 tx ta (nI N) (nI C) _ (cn_has.mp c1) _ _ _)) 1 21 (by decide) (by decide) (fun sz => kM_lookUp_none l D sz cI m0 a1 a2 a3 a4 a5 a6 th (nI C) (nI N) si f1 f2 f3 f4 f5 f6 _ _ _ _ c1)
  · obtain ⟨j, hj, ej⟩ := cn_there hR.2.1 (fun q => c1 (cn_has.mpr q))
    obtain ⟨k, hk, eS, e1, eW, hw, eO, hf, eL, h, eG, hh⟩ := hR.2.2.2 j hj
    have hj8 : j < 8 := Nat.lt_of_lt_of_le hj hR.2.1
    have hth : ¬ tt_has (nI C) (nI j) = 0 := by rw [← ej]; exact c1
    have eSf : S j = f1 j := eS.trans e1.symm
    by_cases c2 : xs (i + 2) < 0 ∨ ¬ xs (i + 2) ≤ nI k
    · refine lw_lookUp_x K0 hN hR hP hD hS hi hl [(x0, .inr (1, [.ref tx, .int (nI N), .ref ta, .int (nI C)])), (ta, .inl (cT, 8, .inr (.inr (.inr (.inr (fun j => some (tq j))))))), (tq j, .inr (0, [.ref (cq j), .int (S j), .int (Wr j), .int (O j), .int (Lv j)])), (cq j, .inl (cI, 1365, .inl (G j)))] 1 0 si f6 (by decide) (lw_subj hP hj8) ?_ 1 23 (by decide) (by decide) ?_
      · rw [ej]
        exact kL_lookUp_ns l D cI cT _ x0 ou _ _ _ _ _ rfl (kB_lookUp_nolevel l hl9 D cI cT x0 tx ta (nI N) C tq cq j hR.2.1 hj (S j) (Wr j) (O j) (Lv j) (G j) _ _ _ (by rw [eL]; exact (lc_has hk).mpr c2))
      · intro sz
        rw [ej]
        exact kM_lookUp_nolevel l D sz cI m0 a1 a2 a3 a4 a5 a6 th (nI C) (nI N) si f1 f2 f3 f4 f5 f6 j k hj8 hk e1 hth _ _ _ c2
    · obtain ⟨Lq, hLq, eLv⟩ := lc_lev hk c2
      have hlv : ¬ tt_has (Lv j) (nI Lq) = 0 := by rw [eL, ← eLv]; exact fun q => c2 ((lc_has hk).mp q)
      by_cases c3 : tt_isPlace (xs (i + 3)) = 0 ∨ tt_isPlace (xs (i + 4)) = 0
      · refine lw_lookUp_x K0 hN hR hP hD hS hi hl [(x0, .inr (1, [.ref tx, .int (nI N), .ref ta, .int (nI C)])), (ta, .inl (cT, 8, .inr (.inr (.inr (.inr (fun j => some (tq j))))))), (tq j, .inr (0, [.ref (cq j), .int (S j), .int (Wr j), .int (O j), .int (Lv j)])), (cq j, .inl (cI, 1365, .inl (G j)))] 2 0 si f6 (by decide) (lw_subj hP hj8) ?_ 1 23 (by decide) (by decide) ?_
        · rw [ej, eLv]
          exact kL_lookUp_ia l D cI cT _ x0 ou _ _ _ _ _ rfl (kB_lookUp_bad l hl9 D cI cT x0 tx ta (nI N) C tq cq j hR.2.1 hj (S j) (Wr j) (O j) (Lv j) (G j) _ _ _ hlv c3)
        · intro sz
          rw [ej, eLv]
          exact kM_lookUp_bad l D sz cI m0 a1 a2 a3 a4 a5 a6 th (nI C) (nI N) si f1 f2 f3 f4 f5 f6 j k Lq hj8 hk hLq e1 hth _ _ c3
      · have hu : ¬ tt_isPlace (xs (i + 3)) = 0 := fun q => c3 (Or.inl q)
        have hv : ¬ tt_isPlace (xs (i + 4)) = 0 := fun q => c3 (Or.inr q)
        obtain ⟨hs1, hs2⟩ := lc_s1 (L := Lq) hk
        by_cases c4 : f3 j = 1
        · obtain ⟨x9, x8, y9, y8, l1, l2, l3, l4, q1, q2, q3, q4, qr⟩ := lc_soft (f6 := f6) hk hLq hh hw c4 hu hv
          rw [← eW, ← eO, ← eG, ← eS] at qr
          refine lw_lookUp_o K0 hN hR hP hD hS hi hl [(x0, .inr (1, [.ref tx, .int (nI N), .ref ta, .int (nI C)])), (ta, .inl (cT, 8, .inr (.inr (.inr (.inr (fun j => some (tq j))))))), (tq j, .inr (0, [.ref (cq j), .int (S j), .int (Wr j), .int (O j), .int (Lv j)])), (cq j, .inl (cI, 1365, .inl (G j)))] (tt_cat (Wr j) (O j) (G j) (S j >>> (nI Lq &&& 31)) (xs (i + 3)).toInt64 (xs (i + 4)).toInt64) (nI (2 ^ (k - Lq))) (mm_hs (va_cpy f4 f6 (1024 * j) 0 (4 ^ k)) k Lq) (lw_subj hP hj8) ?_ 3 92 (by decide) (by decide) ?_
          · intro sz
            rw [ej, eLv]
            exact kL_lookUp_ok l D sz cI cT cL _ x0 ou _ fo _ _ _ _ _ 4 131 (by decide) (by decide) rfl (kB_lookUp_ok l D cI cT x0 tx ta (nI N) C tq cq j hR.2.1 hj (S j) (Wr j) (O j) (Lv j) (G j) _ _ _ hlv hu hv)
          · intro sz
            have h9 := kM_lookUp_soft l D sz cI m0 a1 a2 a3 a4 a5 a6 th (nI C) (nI N) si f1 f2 f3 f4 f5 f6 j k Lq hj8 hk hLq e1 hth _ _ hu hv c4 hs1 hs2 x9 x8 y9 y8 l1 l2 l3 l4 q1 q2 q3 q4
            rw [← qr] at h9
            rw [ej, eLv]
            exact h9
        · obtain ⟨x9, y9, l1, l3, q1, q3, qr⟩ := lc_hard (f6 := f6) hk hLq hh hw c4 hu hv
          rw [← eW, ← eO, ← eG, ← eS] at qr
          refine lw_lookUp_o K0 hN hR hP hD hS hi hl [(x0, .inr (1, [.ref tx, .int (nI N), .ref ta, .int (nI C)])), (ta, .inl (cT, 8, .inr (.inr (.inr (.inr (fun j => some (tq j))))))), (tq j, .inr (0, [.ref (cq j), .int (S j), .int (Wr j), .int (O j), .int (Lv j)])), (cq j, .inl (cI, 1365, .inl (G j)))] (tt_cat (Wr j) (O j) (G j) (S j >>> (nI Lq &&& 31)) (xs (i + 3)).toInt64 (xs (i + 4)).toInt64) (nI (2 ^ (k - Lq))) (mm_hs (va_cpy f4 f6 (1024 * j) 0 (4 ^ k)) k Lq) (lw_subj hP hj8) ?_ 3 71 (by decide) (by decide) ?_
          · intro sz
            rw [ej, eLv]
            exact kL_lookUp_ok l D sz cI cT cL _ x0 ou _ fo _ _ _ _ _ 4 131 (by decide) (by decide) rfl (kB_lookUp_ok l D cI cT x0 tx ta (nI N) C tq cq j hR.2.1 hj (S j) (Wr j) (O j) (Lv j) (G j) _ _ _ hlv hu hv)
          · intro sz
            have h9 := kM_lookUp_hard l D sz cI m0 a1 a2 a3 a4 a5 a6 th (nI C) (nI N) si f1 f2 f3 f4 f5 f6 j k Lq hj8 hk hLq e1 hth _ _ hu hv c4 hs1 hs2 x9 y9 l1 l3 q1 q3
            rw [← qr] at h9
            rw [ej, eLv]
            exact h9

set_option maxHeartbeats 4000000 in
theorem lw_op5 (K0 : lw_Cx p l s m c b L xs D cI cT cL) (hN : lw_N p l e s m below meth c b D cI cT cL x0 tx ta tq cq m0 a1 a2 a3 a4 a5 a6 ou i) (hR : lwR N C f S Wr O Lv G f1 f2 f3 f4 f5) (hP : va_P D tbCl (lwW x0 tx ta tq cq cI cT cL m0 a1 a2 a3 a4 a5 a6 ou (nI N) (nI C) f S Wr O Lv G th (nI C) (nI N) si f1 f2 f3 f4 f5 f6 fo) H) (hD : va_D (fun q => s.heap.size ≤ q) (lwW x0 tx ta tq cq cI cT cL m0 a1 a2 a3 a4 a5 a6 ou (nI N) (nI C) f S Wr O Lv G th (nI C) (nI N) si f1 f2 f3 f4 f5 f6 fo)) (hS : va_S (fun q => s.heap.size ≤ q) s.heap H locs) (hi : i + 5 ≤ L) (hl : lv_has ls 7 [(4, .int (nI i)), (0, .ref b), (1, .ref x0), (2, .ref m0), (3, .ref ou)]) : W p l e room_1 s m #[Value.ref b] below meth c H locs (27 + i) (22271 + 6 * i) (lw_Z below #[Value.ref b] s) (F0 m 401 ls []) := by
  have hl9 : l.stackTraces = false := K0.2.2.2.2.2.2.2.2.2.2.2.2
  by_cases c1 : tt_has (nI C) (xs (i + 1)) = 0
  · exact lw_texel_x K0 hN hR hP hD hS hi hl [(x0, .inr (1, [.ref tx, .int (nI N), .ref ta, .int (nI C)]))] 1 0 si f6 (by decide) (hP.sub [0] rfl) (kL_texel_ns l D cI cT _ x0 ou _ _ _ _ _ rfl (kB_texel_none l hl9 D cI cT x0 tx ta (nI N) (nI C) _ (cn_has.mp c1) _ _ _)) 1 21 (by decide) (by decide) (fun sz => kM_texel_none l D sz cI m0 a1 a2 a3 a4 a5 a6 th (nI C) (nI N) si f1 f2 f3 f4 f5 f6 _ _ _ _ c1)
  · obtain ⟨j, hj, ej⟩ := cn_there hR.2.1 (fun q => c1 (cn_has.mpr q))
    obtain ⟨k, hk, eS, e1, eW, hw, eO, hf, eL, h, eG, hh⟩ := hR.2.2.2 j hj
    have hj8 : j < 8 := Nat.lt_of_lt_of_le hj hR.2.1
    have hth : ¬ tt_has (nI C) (nI j) = 0 := by rw [← ej]; exact c1
    have eSf : S j = f1 j := eS.trans e1.symm
    by_cases c2 : xs (i + 2) < 0 ∨ ¬ xs (i + 2) ≤ nI k
    · refine lw_texel_x K0 hN hR hP hD hS hi hl [(x0, .inr (1, [.ref tx, .int (nI N), .ref ta, .int (nI C)])), (ta, .inl (cT, 8, .inr (.inr (.inr (.inr (fun j => some (tq j))))))), (tq j, .inr (0, [.ref (cq j), .int (S j), .int (Wr j), .int (O j), .int (Lv j)])), (cq j, .inl (cI, 1365, .inl (G j)))] 1 0 si f6 (by decide) (lw_subj hP hj8) ?_ 1 23 (by decide) (by decide) ?_
      · rw [ej]
        exact kL_texel_ns l D cI cT _ x0 ou _ _ _ _ _ rfl (kB_texel_nolevel l hl9 D cI cT x0 tx ta (nI N) C tq cq j hR.2.1 hj (S j) (Wr j) (O j) (Lv j) (G j) _ _ _ (by rw [eL]; exact (lc_has hk).mpr c2))
      · intro sz
        rw [ej]
        exact kM_texel_nolevel l D sz cI m0 a1 a2 a3 a4 a5 a6 th (nI C) (nI N) si f1 f2 f3 f4 f5 f6 j k hj8 hk e1 hth _ _ _ c2
    · obtain ⟨Lq, hLq, eLv⟩ := lc_lev hk c2
      have hlv : ¬ tt_has (Lv j) (nI Lq) = 0 := by rw [eL, ← eLv]; exact fun q => c2 ((lc_has hk).mp q)
      by_cases c3 : xs (i + 3) < 0 ∨ nI (2 ^ (k - Lq)) ≤ xs (i + 3) ∨ xs (i + 4) < 0 ∨ ¬ xs (i + 4) < nI (2 ^ (k - Lq))
      · refine lw_texel_x K0 hN hR hP hD hS hi hl [(x0, .inr (1, [.ref tx, .int (nI N), .ref ta, .int (nI C)])), (ta, .inl (cT, 8, .inr (.inr (.inr (.inr (fun j => some (tq j))))))), (tq j, .inr (0, [.ref (cq j), .int (S j), .int (Wr j), .int (O j), .int (Lv j)])), (cq j, .inl (cI, 1365, .inl (G j)))] 1 0 (nI (2 ^ (k - Lq))) (mm_hs (va_cpy f4 f6 (1024 * j) 0 (4 ^ k)) k Lq) (by decide) (lw_subj hP hj8) ?_ 3 71 (by decide) (by decide) ?_
        · rw [ej, eLv]
          exact kL_texel_ns l D cI cT _ x0 ou _ _ _ _ _ rfl (kB_texel_bad l hl9 D cI cT x0 tx ta (nI N) C tq cq j hR.2.1 hj (S j) (Wr j) (O j) (Lv j) (G j) _ _ _ hlv (by rw [eS]; exact lc_texbad hk hLq c3))
        · intro sz
          rw [ej, eLv]
          exact kM_texel_bad l D sz cI m0 a1 a2 a3 a4 a5 a6 th (nI C) (nI N) si f1 f2 f3 f4 f5 f6 j k Lq hj8 hk hLq e1 hth _ _ c3
      · obtain ⟨x9, y9, l1, l3, eu, ev⟩ := lc_texok hk c3
        obtain ⟨qr, qn⟩ := lc_texel (f6 := f6) hk hLq hh l1 l3
        rw [← eG, ← eS] at qr qn
        refine lw_texel_o K0 hN hR hP hD hS hi hl [(x0, .inr (1, [.ref tx, .int (nI N), .ref ta, .int (nI C)])), (ta, .inl (cT, 8, .inr (.inr (.inr (.inr (fun j => some (tq j))))))), (tq j, .inr (0, [.ref (cq j), .int (S j), .int (Wr j), .int (O j), .int (Lv j)])), (cq j, .inl (cI, 1365, .inl (G j)))] (tt_at (G j) (S j >>> (nI Lq &&& 31)) (nI x9) (nI y9)) (nI (2 ^ (k - Lq))) (mm_hs (va_cpy f4 f6 (1024 * j) 0 (4 ^ k)) k Lq) (lw_subj hP hj8) ?_ 3 71 (by decide) (by decide) ?_
        · intro sz
          rw [ej, eLv, eu, ev]
          exact kL_texel_ok l D sz cI cT cL _ x0 ou _ fo _ _ _ _ _ 2 43 (by decide) (by decide) rfl (kB_texel_ok l D cI cT x0 tx ta (nI N) C tq cq j hR.2.1 hj (S j) (Wr j) (O j) (Lv j) (G j) _ _ _ hlv qn)
        · intro sz
          have h9 := kM_texel_ok l D sz cI m0 a1 a2 a3 a4 a5 a6 th (nI C) (nI N) si f1 f2 f3 f4 f5 f6 j k Lq hj8 hk hLq e1 hth x9 y9 l1 l3
          rw [← qr] at h9
          rw [ej, eLv, eu, ev]
          exact h9

set_option maxHeartbeats 4000000 in
theorem lw_op6 (K0 : lw_Cx p l s m c b L xs D cI cT cL) (hN : lw_N p l e s m below meth c b D cI cT cL x0 tx ta tq cq m0 a1 a2 a3 a4 a5 a6 ou i) (hR : lwR N C f S Wr O Lv G f1 f2 f3 f4 f5) (hP : va_P D tbCl (lwW x0 tx ta tq cq cI cT cL m0 a1 a2 a3 a4 a5 a6 ou (nI N) (nI C) f S Wr O Lv G th (nI C) (nI N) si f1 f2 f3 f4 f5 f6 fo) H) (hD : va_D (fun q => s.heap.size ≤ q) (lwW x0 tx ta tq cq cI cT cL m0 a1 a2 a3 a4 a5 a6 ou (nI N) (nI C) f S Wr O Lv G th (nI C) (nI N) si f1 f2 f3 f4 f5 f6 fo)) (hS : va_S (fun q => s.heap.size ≤ q) s.heap H locs) (hi : i + 5 ≤ L) (hl : lv_has ls 7 [(4, .int (nI i)), (0, .ref b), (1, .ref x0), (2, .ref m0), (3, .ref ou)]) : W p l e room_1 s m #[Value.ref b] below meth c H locs (27 + i) (22271 + 6 * i) (lw_Z below #[Value.ref b] s) (F0 m 493 ls []) := by
  have hl9 : l.stackTraces = false := K0.2.2.2.2.2.2.2.2.2.2.2.2
  by_cases c1 : xs (i + 1) < 0 ∨ 16777216 ≤ xs (i + 1) ∨ xs (i + 2) < 0 ∨ 16777216 ≤ xs (i + 2) ∨ xs (i + 3) < 0 ∨ 65536 < xs (i + 3)
  · have hbad : tt_isCol (xs (i + 1)) = 0 ∨ tt_isCol (xs (i + 2)) = 0 ∨ xs (i + 3) < 0 ∨ ¬ (xs (i + 3)).toInt64 ≤ 65536 := by
      rcases c1 with q | q | q | q | q | q
      · exact Or.inl (cn_colour.mpr (Or.inl q))
      · exact Or.inl (cn_colour.mpr (Or.inr q))
      · exact Or.inr (Or.inl (cn_colour.mpr (Or.inl q)))
      · exact Or.inr (Or.inl (cn_colour.mpr (Or.inr q)))
      · exact Or.inr (Or.inr (Or.inl q))
      · exact Or.inr (Or.inr (Or.inr (fun z => cn_light.mp z q)))
    exact lw_lit_x K0 hN hR hP hD hS hi hl [(x0, .inr (1, [.ref tx, .int (nI N), .ref ta, .int (nI C)]))] 1 0 si f6 (by decide) (hP.sub [0] rfl) (kL_lit_ia l D cI cT _ x0 ou _ _ _ _ rfl (kB_lit_bad l hl9 D cI cT x0 tx ta (nI N) (nI C) _ _ _ hbad)) 0 0 (by decide) (by decide) (fun sz => kM_lit_bad l D sz cI m0 a1 a2 a3 a4 a5 a6 th (nI C) (nI N) si f1 f2 f3 f4 f5 f6 _ _ _ c1)
  · have d1 : ¬ xs (i + 1) < 0 := fun q => c1 (Or.inl q)
    have d2 : ¬ 16777216 ≤ xs (i + 1) := fun q => c1 (Or.inr (Or.inl q))
    have d3 : ¬ xs (i + 2) < 0 := fun q => c1 (Or.inr (Or.inr (Or.inl q)))
    have d4 : ¬ 16777216 ≤ xs (i + 2) := fun q => c1 (Or.inr (Or.inr (Or.inr (Or.inl q))))
    have d5 : ¬ xs (i + 3) < 0 := fun q => c1 (Or.inr (Or.inr (Or.inr (Or.inr (Or.inl q)))))
    have d6 : ¬ 65536 < xs (i + 3) := fun q => c1 (Or.inr (Or.inr (Or.inr (Or.inr (Or.inr q)))))
    have n1 : ¬ (xs (i + 1) < 0 ∨ 16777216 ≤ xs (i + 1)) := fun q => q.elim d1 d2
    have n2 : ¬ (xs (i + 2) < 0 ∨ 16777216 ≤ xs (i + 2)) := fun q => q.elim d3 d4
    obtain ⟨q9, hq9, eq9⟩ := cn_light2 d5 d6
    have hq := nq_lit (cn_cq n1) (cn_cq n2) hq9
    rw [← eq9] at hq
    refine lw_lit_o K0 hN hR hP hD hS hi hl [(x0, .inr (1, [.ref tx, .int (nI N), .ref ta, .int (nI C)]))] (mm_lit (xs (i + 1)) (xs (i + 2)) (xs (i + 3))) si f6 (hP.sub [0] rfl) ?_ 1 21 (by decide) (by decide) (fun sz => kM_lit_ok l D sz cI m0 a1 a2 a3 a4 a5 a6 th (nI C) (nI N) si f1 f2 f3 f4 f5 f6 _ _ _ d1 d2 d3 d4 d5 d6)
    intro sz
    have h9 := kB_lit_ok l D cI cT x0 tx ta (nI N) (nI C) (xs (i + 1)) (xs (i + 2)) (xs (i + 3)) (fun q => n1 (cn_colour.mp q)) (fun q => n2 (cn_colour.mp q)) d5 (cn_light.mpr d6)
    rw [hq] at h9
    exact kL_lit_ok l D sz cI cT cL _ x0 ou _ fo _ _ _ _ 2 50 (by decide) (by decide) rfl h9

set_option maxHeartbeats 4000000 in
theorem lw_op7 (K0 : lw_Cx p l s m c b L xs D cI cT cL) (hN : lw_N p l e s m below meth c b D cI cT cL x0 tx ta tq cq m0 a1 a2 a3 a4 a5 a6 ou i) (hR : lwR N C f S Wr O Lv G f1 f2 f3 f4 f5) (hP : va_P D tbCl (lwW x0 tx ta tq cq cI cT cL m0 a1 a2 a3 a4 a5 a6 ou (nI N) (nI C) f S Wr O Lv G th (nI C) (nI N) si f1 f2 f3 f4 f5 f6 fo) H) (hD : va_D (fun q => s.heap.size ≤ q) (lwW x0 tx ta tq cq cI cT cL m0 a1 a2 a3 a4 a5 a6 ou (nI N) (nI C) f S Wr O Lv G th (nI C) (nI N) si f1 f2 f3 f4 f5 f6 fo)) (hS : va_S (fun q => s.heap.size ≤ q) s.heap H locs) (hi : i + 5 ≤ L) (hl : lv_has ls 7 [(4, .int (nI i)), (0, .ref b), (1, .ref x0), (2, .ref m0), (3, .ref ou)]) : W p l e room_1 s m #[Value.ref b] below meth c H locs (27 + i) (22271 + 6 * i) (lw_Z below #[Value.ref b] s) (F0 m 573 ls []) := by
  have hl9 : l.stackTraces = false := K0.2.2.2.2.2.2.2.2.2.2.2.2
  by_cases c1 : tt_has (nI C) (xs (i + 1)) = 0
  · exact lw_about_r K0 hN hR hP hD hS hi hl [(x0, .inr (1, [.ref tx, .int (nI N), .ref ta, .int (nI C)]))] _ (-1) 1 21 (by decide) (by decide) rfl (hP.sub [0] rfl) (kB_about_none l D cI cT x0 tx ta (nI N) (nI C) _ _ (cn_has.mp c1)) 1 21 (by decide) (by decide) (fun sz => kM_about_none l D sz cI m0 a1 a2 a3 a4 a5 a6 th (nI C) (nI N) si f1 f2 f3 f4 f5 f6 _ _ c1)
  · obtain ⟨j, hj, ej⟩ := cn_there hR.2.1 (fun q => c1 (cn_has.mpr q))
    obtain ⟨k, hk, eS, e1, eW, hw, eO, hf, eL, h, eG, hh⟩ := hR.2.2.2 j hj
    have hj8 : j < 8 := Nat.lt_of_lt_of_le hj hR.2.1
    have hth : ¬ tt_has (nI C) (nI j) = 0 := by rw [← ej]; exact c1
    have eSf : S j = f1 j := eS.trans e1.symm
    have hq : tb_about (S j) (Wr j) (O j) (Lv j) (xs (i + 2)) = (tb_about (f1 j) (f2 j) (f3 j) (nI (k + 1)) (xs (i + 2))) := by rw [eSf, eW, eO, eL]
    refine lw_about_r K0 hN hR hP hD hS hi hl [(x0, .inr (1, [.ref tx, .int (nI N), .ref ta, .int (nI C)])), (ta, .inl (cT, 8, .inr (.inr (.inr (.inr (fun j => some (tq j))))))), (tq j, .inr (0, [.ref (cq j), .int (S j), .int (Wr j), .int (O j), .int (Lv j)]))] _ (tb_about (f1 j) (f2 j) (f3 j) (nI (k + 1)) (xs (i + 2))) 1 21 (by decide) (by decide) rfl ((lw_subj hP hj8).sub [0, 1, 2] rfl) ?_ 1 23 (by decide) (by decide) ?_
    · have h9 := kB_about_some l D cI cT x0 tx ta (nI N) C tq cq j hR.2.1 hj (S j) (Wr j) (O j) (Lv j) (xs (i + 2))
      rw [hq] at h9
      rw [ej]
      exact h9
    · intro sz
      rw [ej]
      exact kM_about_some l D sz cI m0 a1 a2 a3 a4 a5 a6 th (nI C) (nI N) si f1 f2 f3 f4 f5 f6 j k hj8 hk e1 hth _

set_option maxHeartbeats 4000000 in
theorem lw_op8 (K0 : lw_Cx p l s m c b L xs D cI cT cL) (hN : lw_N p l e s m below meth c b D cI cT cL x0 tx ta tq cq m0 a1 a2 a3 a4 a5 a6 ou i) (hR : lwR N C f S Wr O Lv G f1 f2 f3 f4 f5) (hP : va_P D tbCl (lwW x0 tx ta tq cq cI cT cL m0 a1 a2 a3 a4 a5 a6 ou (nI N) (nI C) f S Wr O Lv G th (nI C) (nI N) si f1 f2 f3 f4 f5 f6 fo) H) (hD : va_D (fun q => s.heap.size ≤ q) (lwW x0 tx ta tq cq cI cT cL m0 a1 a2 a3 a4 a5 a6 ou (nI N) (nI C) f S Wr O Lv G th (nI C) (nI N) si f1 f2 f3 f4 f5 f6 fo)) (hS : va_S (fun q => s.heap.size ≤ q) s.heap H locs) (hi : i + 5 ≤ L) (hl : lv_has ls 7 [(4, .int (nI i)), (0, .ref b), (1, .ref x0), (2, .ref m0), (3, .ref ou)]) : W p l e room_1 s m #[Value.ref b] below meth c H locs (27 + i) (22271 + 6 * i) (lw_Z below #[Value.ref b] s) (F0 m 610 ls []) := by
  have hl9 : l.stackTraces = false := K0.2.2.2.2.2.2.2.2.2.2.2.2
  exact lw_count_r K0 hN hR hP hD hS hi hl [(x0, .inr (1, [.ref tx, .int (nI N), .ref ta, .int (nI C)]))] _ (tb_count (nI N) (nI C) (xs (i + 1))) 0 0 (by decide) (by decide) rfl (hP.sub [0] rfl) (kB_count l D cI cT x0 tx ta (nI N) (nI C) _) 0 0 (by decide) (by decide) (fun sz => kM_count l D sz cI m0 a1 a2 a3 a4 a5 a6 th (nI C) (nI N) si f1 f2 f3 f4 f5 f6 _)

end LAWP
section LAWQ
variable {p : Program} {l : Launch} {e : Env} {s : State} {m : MethodId} {below : List Frame} {meth : Method} {c : Code} {b L : Nat} {xs : Nat → Int32} {D : va_G} {cI cT cL : ClassId} {x0 tx ta : Nat} {tq cq : Nat → Nat} {m0 a1 a2 a3 a4 a5 a6 ou : Nat}
set_option maxHeartbeats 4000000 in
theorem lw_loop (K0 : lw_Cx p l s m c b L xs D cI cT cL) (hr : meth.sig.returnType = ret) (hlocks : meth.locks = false) : ∀ (n i : Nat) (N C : Nat) (f S Wr O Lv : Nat → Int32) (G : Nat → Nat → Int32) (th si : Int32) (f1 f2 f3 f4 f5 f6 : Nat → Int32) (fo : Nat → Int64) (H : Heap) (locs : List Loc), i ≤ L → L + 1 ≤ i + n → lwR N C f S Wr O Lv G f1 f2 f3 f4 f5 → va_P D tbCl (lwW x0 tx ta tq cq cI cT cL m0 a1 a2 a3 a4 a5 a6 ou (nI N) (nI C) f S Wr O Lv G th (nI C) (nI N) si f1 f2 f3 f4 f5 f6 fo) H → va_D (fun q => s.heap.size ≤ q) (lwW x0 tx ta tq cq cI cT cL m0 a1 a2 a3 a4 a5 a6 ou (nI N) (nI C) f S Wr O Lv G th (nI C) (nI N) si f1 f2 f3 f4 f5 f6 fo) → va_S (fun q => s.heap.size ≤ q) s.heap H locs → ∀ ls : Array Slot, lv_has ls 7 [(4, .int (nI i)), (0, .ref b), (1, .ref x0), (2, .ref m0), (3, .ref ou)] → W p l e room_1 s m #[Value.ref b] below meth c H locs (27 + i) (22271 + 6 * i) (lw_Z below #[Value.ref b] s) (F0 m 23 ls []) := by
  have K1 := K0
  obtain ⟨hx, hb, hml, hown, hB, hC, hT, hK, hX, hbl, hZ, hL, hl9⟩ := K1
  intro n
  induction n with
  | zero => intro i N C f S Wr O Lv G th si f1 f2 f3 f4 f5 f6 fo H locs h1 h2; exact absurd h2 (by omega)
  | succ n ih =>
    intro i N C f S Wr O Lv G th si f1 f2 f3 f4 f5 f6 fo H locs hiL hn hR hP hD hS ls hl
    refine lv_iload hx hb dL_law_23 (lv_at hl 0 rfl) ?_
    refine lv_aload_n hx hb dL_law_25 rfl (lv_at hl 1 rfl) ?_
    refine va_slen hx hb hX hbl (Nat.not_le.mpr hbl) hS dL_law_26 ?_
    refine W.eq (g2 := F0 m 27 ls [.int (nI L), .int (nI i)]) rfl ?_
    refine lv_iconst (v := 5) hx hb dL_law_27 (by decide) ?_
    refine lv_isub hx hb dL_law_28 ?_
    refine lv_icmp_gt (tgt := 641) hx hb dL_law_29 (by decide) (fun c_1 => ?_) (fun c_1 => ?_)
    · refine lv_iconst (v := 1) hx hb dL_law_641 (by decide) ?_
      exact va_forget hS.2.2 (W.widen (by omega) (by omega) (lw_ret hx hb hr hlocks dL_law_642))
    · have hi : i + 5 ≤ L := lc_end hL (by omega) c_1
      have hN : lw_N p l e s m below meth c b D cI cT cL x0 tx ta tq cq m0 a1 a2 a3 a4 a5 a6 ou i := by
        intro N C f S Wr O Lv G th si f1 f2 f3 f4 f5 f6 fo H locs hR hP hD hS ls hl
        refine lv_iinc (v := nI (i + 5)) (lv' := [(4, .int (nI (i + 5))), (0, .ref b), (1, .ref x0), (2, .ref m0), (3, .ref ou)]) hx hb dL_law_635 hl (k := 0) rfl (nI_add i 5) (by decide) rfl (fun ls hl => ?_)
        refine lv_goto (tgt := 23) hx hb dL_law_638 (by decide) ?_
        exact W.widen (by omega) (by omega) (ih (i + 5) N C f S Wr O Lv G th si f1 f2 f3 f4 f5 f6 fo H locs (by omega) (by omega) hR hP hD hS ls hl)
      refine lv_aload_n hx hb dL_law_32 rfl (lv_at hl 1 rfl) ?_
      refine lv_iload hx hb dL_law_33 (lv_at hl 0 rfl) ?_
      refine va_sld hx hb hX hbl (Nat.not_le.mpr hbl) hS (vp_in_nI (by omega) (by omega)) dL_law_35 ?_
      refine W.eq (g2 := F0 m 36 ls [.int (xs i)]) (by rw [nI_clamp (by omega)]) ?_
      refine lv_bipush (v := 15) hx hb dL_law_36 (by decide) ?_
      refine lv_iand hx hb dL_law_38 ?_
      by_cases c_2 : (xs i) &&& 15 = 0
      · refine lv_tableIn (tgt := 88) hx hb dL_law_39 (by rw [c_2]; decide) (by rw [c_2]; decide) (by rw [c_2]; rfl) (by decide) ?_
        exact lw_op0 K0 hN hR hP hD hS hi hl
      · by_cases c_3 : (xs i) &&& 15 = 1
        · refine lv_tableIn (tgt := 137) hx hb dL_law_39 (by rw [c_3]; decide) (by rw [c_3]; decide) (by rw [c_3]; rfl) (by decide) ?_
          exact lw_op1 K0 hN hR hP hD hS hi hl
        · by_cases c_4 : (xs i) &&& 15 = 2
          · refine lv_tableIn (tgt := 186) hx hb dL_law_39 (by rw [c_4]; decide) (by rw [c_4]; decide) (by rw [c_4]; rfl) (by decide) ?_
            exact lw_clear_ok K0 hN hR hP hD hS hi hl
          · by_cases c_5 : (xs i) &&& 15 = 3
            · refine lv_tableIn (tgt := 197) hx hb dL_law_39 (by rw [c_5]; decide) (by rw [c_5]; decide) (by rw [c_5]; rfl) (by decide) ?_
              exact lw_op3 K0 hN hR hP hD hS hi hl
            · by_cases c_6 : (xs i) &&& 15 = 4
              · refine lv_tableIn (tgt := 309) hx hb dL_law_39 (by rw [c_6]; decide) (by rw [c_6]; decide) (by rw [c_6]; rfl) (by decide) ?_
                exact lw_op4 K0 hN hR hP hD hS hi hl
              · by_cases c_7 : (xs i) &&& 15 = 5
                · refine lv_tableIn (tgt := 401) hx hb dL_law_39 (by rw [c_7]; decide) (by rw [c_7]; decide) (by rw [c_7]; rfl) (by decide) ?_
                  exact lw_op5 K0 hN hR hP hD hS hi hl
                · by_cases c_8 : (xs i) &&& 15 = 6
                  · refine lv_tableIn (tgt := 493) hx hb dL_law_39 (by rw [c_8]; decide) (by rw [c_8]; decide) (by rw [c_8]; rfl) (by decide) ?_
                    exact lw_op6 K0 hN hR hP hD hS hi hl
                  · by_cases c_9 : (xs i) &&& 15 = 7
                    · refine lv_tableIn (tgt := 573) hx hb dL_law_39 (by rw [c_9]; decide) (by rw [c_9]; decide) (by rw [c_9]; rfl) (by decide) ?_
                      exact lw_op7 K0 hN hR hP hD hS hi hl
                    · by_cases c_10 : (xs i) &&& 15 = 8
                      · refine lv_tableIn (tgt := 610) hx hb dL_law_39 (by rw [c_10]; decide) (by rw [c_10]; decide) (by rw [c_10]; rfl) (by decide) ?_
                        exact lw_op8 K0 hN hR hP hD hS hi hl
                      · refine lv_tableOut (tgt := 635) hx hb dL_law_39 (tt_sw8 c_2 c_3 c_4 c_5 c_6 c_7 c_8 c_9 c_10) (by decide) ?_
                        exact W.widen (by omega) (by omega) (hN N C _ _ _ _ _ _ _ _ _ _ _ _ _ _ _ _ _ (hR) hP hD hS ls (lv_sub hl [0, 1, 2, 3, 4] rfl))
end LAWQ

theorem lw_str {args : Array Value} {s : State} {k : Nat} {tx : String} (h : (Cond.exactly (.string "TextureBank" k) "java/lang/String").before args s = true) (h1 : (Cond.stringRef "TextureBank" k tx).before args s = true) : ∃ a, vk_R "TextureBank" k tx a s := by
  obtain ⟨a, c, cA, kA, q1, -⟩ := Cond.exactly_spec (args := args) (first := s) (o := none) (s := s) (idx := []) (t := .string "TextureBank" k) (cls := "java/lang/String") h
  exact ⟨a, vk_R.of h1 q1⟩
theorem lw_D {args : Array Value} {s : State} (hB : ∀ w ∈ tbB, w.before args s = true) : ∃ D : va_G, va_K D tbCl [] s := by
  obtain ⟨c0, i0, k0⟩ := u_known (C := RT) (T := FT) (N := 5) (n := 5) hB inT (hB _ wd_22)
  obtain ⟨c1, i1, k1⟩ := u_known (C := RB) (T := FB) (N := 4) (n := 4) hB inB (hB _ wd_13)
  obtain ⟨c2, i2, k2⟩ := u_known (C := RM) (T := FM) (N := 10) (n := 10) hB inM (hB _ wd_317)
  refine ⟨(fun z => match z with | 0 => c0 | 1 => c1 | _ => c2, fun z => match z with | 0 => i0 | 1 => i1 | _ => i2), ⟨fun z q hq => ?_, fun z q hq => by simp at hq⟩⟩
  match z, hq with
  | 0, hq =>
    have h9 : ((RT, FT, 5) : vw_C) = q := Option.some.inj hq
    subst h9
    exact k0
  | 1, hq =>
    have h9 : ((RB, FB, 4) : vw_C) = q := Option.some.inj hq
    subst h9
    exact k1
  | 2, hq =>
    have h9 : ((RM, FM, 10) : vw_C) = q := Option.some.inj hq
    subst h9
    exact k2
  | z + 3, hq => simp [tbCl] at hq
theorem lw_hC {args : Array Value} {s : State} (hts : ∀ w ∈ lw_tbl, w.before args s = true) : tbCx s :=
  ⟨va_Nw.of rfl (hts _ wt_23), va_Nw.of rfl (hts _ wt_29), va_Nw.of rfl (hts _ wt_31), va_Nw.of rfl (hts _ wt_33), va_Nw.of rfl (hts _ wt_35), va_Nw.of rfl (hts _ wt_90), va_Nw.of rfl (hts _ wt_115), va_Nw.of rfl (hts _ wt_122), va_Nw.of rfl (hts _ wt_234), va_Nw.of rfl (hts _ wt_246), va_Nw.of rfl (hts _ wt_256), va_Nw.of rfl (hts _ wt_260), va_Nw.of rfl (hts _ wt_294), va_AO.of (hts _ wt_21)⟩
theorem lw_hT {args : Array Value} {s : State} (hts : ∀ w ∈ lw_tbl, w.before args s = true) (hgv : (Jvm.Cond.and given_1 narrow_1).before args s = true) : tbTx s := by
  have hs := flat_of_before _ hgv
  have h54 : (Cond.exactly (.string "TextureBank" 54) "java/lang/String").before args s = true := hs _ (by decide +kernel)
  have h63 : (Cond.exactly (.string "TextureBank" 63) "java/lang/String").before args s = true := hs _ (by decide +kernel)
  have h67 : (Cond.exactly (.string "TextureBank" 67) "java/lang/String").before args s = true := hs _ (by decide +kernel)
  have h76 : (Cond.exactly (.string "TextureBank" 76) "java/lang/String").before args s = true := hs _ (by decide +kernel)
  have h81 : (Cond.exactly (.string "TextureBank" 81) "java/lang/String").before args s = true := hs _ (by decide +kernel)
  have h94 : (Cond.exactly (.string "TextureBank" 94) "java/lang/String").before args s = true := hs _ (by decide +kernel)
  have h99 : (Cond.exactly (.string "TextureBank" 99) "java/lang/String").before args s = true := hs _ (by decide +kernel)
  have h103 : (Cond.exactly (.string "TextureBank" 103) "java/lang/String").before args s = true := hs _ (by decide +kernel)
  have hn : (Cond.not (.castable "java/lang/IllegalArgumentException" "java/util/NoSuchElementException")).before args s = true := hs _ (by decide +kernel)
  exact ⟨va_Nw.of rfl (hts _ wt_152), va_Nw.of rfl (hts _ wt_154), va_Nw.of rfl (hts _ wt_156), va_Nw.of rfl (hts _ wt_150), va_Nw.of rfl (hts _ wt_218), lw_str h54 (hts _ wt_188), lw_str h63 (hts _ wt_225), lw_str h67 (hts _ wt_233), lw_str h76 (hts _ wt_250), lw_str h81 (hts _ wt_255), lw_str h94 (hts _ wt_295), lw_str h99 (hts _ wt_307), lw_str h103 (hts _ wt_309), va_Nc.of hn⟩
theorem lw_hZ {args : Array Value} {s : State} (hts : ∀ w ∈ lw_tbl, w.before args s = true) (hB : ∀ w ∈ tbB, w.before args s = true) (hgv : (Jvm.Cond.and given_1 narrow_1).before args s = true) : tbZ s s.heap := by
  have hs := flat_of_before _ hgv
  have h1 : (Cond.isRef (.static "java/lang/Throwable" "UNASSIGNED_STACK" "[Ljava/lang/StackTraceElement;")).before args s = true := hs _ (by decide +kernel)
  have h2 : (Cond.isRef (.static "java/lang/Throwable" "SUPPRESSED_SENTINEL" "Ljava/util/List;")).before args s = true := hs _ (by decide +kernel)
  exact ⟨vx_Zqof (hts _ wt_175) (hB _ wd_7) h1 (fun a h => Nat.not_le.mpr h), vx_Zqof (hts _ wt_177) (hB _ wd_7) h2 (fun a h => Nat.not_le.mpr h)⟩
set_option maxHeartbeats 4000000 in
set_option maxRecDepth 100000 in
/-- from the entry, for every script of at most 2560 ints, the law comes to its end with true -/
theorem whole_start {p : Program} {e : Env} {s : State} {m : MethodId} {below : List Frame} {meth : Method} {c : Code} (l : Launch) (hl9 : l.stackTraces = false) {b L : Nat} {xs : Nat → Int32} (hL : L ≤ 2560) (C0 : lw_At p s m meth c b L xs) : W p l e room_1 s m #[Value.ref b] below meth c s.heap [] 0 0 (lw_Z below #[Value.ref b] s) (entryFrame m ([Value.ref b] : List Value).toArray 7) := by
  obtain ⟨hx, hb, hr, hml, hown, hts, hX, hbl, hlocks, hgv⟩ := C0
  have hb : c.code = cL_law := hb
  have hown : s.vm.findClass "TextureBankLaw" = some m.cls := hown
  have hB : ∀ w ∈ tbB, w.before #[Value.ref b] s = true := fun w h => hts w (List.mem_filter.mp h).1
  have hC := lw_hC hts
  have hT := lw_hT hts hgv
  have hZ := lw_hZ hts hB hgv
  obtain ⟨D, hK⟩ := lw_D hB
  have hA : ∀ q : Nat, s.heap.size ≤ q → (fun q => s.heap.size ≤ q) q := fun _ h => h
  have hS : va_S (fun q => s.heap.size ≤ q) s.heap s.heap [] := va_S.rf
  have hP : va_P D tbCl [] s.heap := tbP0
  have hD : va_D (fun q => s.heap.size ≤ q) [] := ⟨fun i j p q hp => by simp at hp, fun k q hk => by simp at hk⟩
  have hl := lv_entry ([.ref b]) (n := 7) (Nat.le_of_ble_eq_true rfl)
  rw [lg_entry_eq]
  generalize (lg_sl ([.ref b]) ++ List.replicate (7 - (lg_sl ([.ref b])).length) Slot.unset).toArray = ls at hl ⊢
  have hl : lv_has ls 7 [(0, .ref b)] := hl
  refine va_new (ci := 1) (fs := [.null, .int 0, .null, .int 0]) (C := RB) (T := FB) (N := 4) hx hb hB inB tyB tyB_ok hown (hB _ wd_12) (hB _ wd_13) (hB _ wd_1) hK hP hD hS hA rfl (fun j hj => by rcases (show j = 0 ∨ j = 1 ∨ j = 2 ∨ j = 3 by omega) with rfl | rfl | rfl | rfl <;> rfl) (Nat.le_of_ble_eq_true rfl) (Nat.le_of_ble_eq_true rfl) dL_law_0 (fun x0 H hP hD hS => ?_)
  have hP : va_P D tbCl [(x0, .inr (1, [.null, .int 0, .null, .int 0]))] H := hP
  have hD : va_D (fun q => s.heap.size ≤ q) [(x0, .inr (1, [.null, .int 0, .null, .int 0]))] := hD
  refine W.widen (k := 1) (n := 4) (by omega) (by omega) ?_
  refine lv_dup hx hb dL_law_3 rfl ?_
  have hFc := lw_free hD hS hA
  refine va_callv (va_runI (As := []) (rest := [.ref x0]) ⟨hx, hb, hml, hown, hB⟩ (kB_init l D H.size x0) ⟨callB_of 0 hB gwB_init rfl rfl rfl (hB _ wd_1) (hB _ wd_14) ydB_init ⟨Nat.le_of_ble_eq_true rfl, Nat.le_of_ble_eq_true rfl⟩, rfl, hB _ wd_15⟩ (wr_S hC hP hK hD) rfl rfl hl.1 rfl (lv_room (Nat.le_of_ble_eq_true rfl)) dL_law_4 ⟨(Nat.le_of_ble_eq_true rfl), (Nat.le_of_ble_eq_true rfl)⟩) hS (fun q _ h => hFc q h) hFc (fun u t H1 locs ht hvm hw hB1 hz1 hk1 hS => ?_)
  obtain ⟨tx, ta, tq, cq, cI, cT, hP1, hK1, hD1⟩ := hB1
  rw [ht] at hP1
  have hK : va_K D tbCl [(cI, .int), (cT, .object "TextureBank$Texture")] s := va_K.moved hvm.symm hK1
  have hD : va_D (fun q => s.heap.size ≤ q) (tbW x0 tx ta tq cq cI cT 0 0 (fun _ => 0) (fun _ => 0) (fun _ => 0) (fun _ => 0) (fun _ => 0) (fun _ _ => 0)) := hD1.weaken (fun k q _ h => hFc _ h)
  have hP := hP1
  generalize H1 = H at hP hS ⊢
  refine W.widen (k := 19) (n := 11996) (by omega) (by omega) ?_
  refine W.eq (g2 := F0 m 7 ls [.ref x0]) rfl ?_
  refine lv_astore_n (lv' := [(1, .ref x0), (0, .ref b)]) hx hb dL_law_7 rfl hl (by decide) rfl (fun ls hl => ?_)
  refine va_new (ci := 2) (fs := [.int 0, .int 0, .null, .null, .null, .null, .int 0, .null, .null, .int 0]) (C := RM) (T := FM) (N := 10) hx hb hB inM tyM tyM_ok hown (hB _ wd_316) (hB _ wd_317) (hB _ wd_3) hK hP hD hS hA rfl (fun j hj => by rcases (show j = 0 ∨ j = 1 ∨ j = 2 ∨ j = 3 ∨ j = 4 ∨ j = 5 ∨ j = 6 ∨ j = 7 ∨ j = 8 ∨ j = 9 by omega) with rfl | rfl | rfl | rfl | rfl | rfl | rfl | rfl | rfl | rfl <;> rfl) (Nat.le_of_ble_eq_true rfl) (Nat.le_of_ble_eq_true rfl) dL_law_8 (fun m0 H hP hD hS => ?_)
  have hP : va_P D tbCl (tbW x0 tx ta tq cq cI cT 0 0 (fun _ => 0) (fun _ => 0) (fun _ => 0) (fun _ => 0) (fun _ => 0) (fun _ _ => 0) ++ [(m0, .inr (2, [.int 0, .int 0, .null, .null, .null, .null, .int 0, .null, .null, .int 0]))]) H := hP
  have hD : va_D (fun q => s.heap.size ≤ q) (tbW x0 tx ta tq cq cI cT 0 0 (fun _ => 0) (fun _ => 0) (fun _ => 0) (fun _ => 0) (fun _ => 0) (fun _ _ => 0) ++ [(m0, .inr (2, [.int 0, .int 0, .null, .null, .null, .null, .int 0, .null, .null, .int 0]))]) := hD
  refine W.widen (k := 20) (n := 12006) (by omega) (by omega) ?_
  refine lv_dup hx hb dL_law_11 rfl ?_
  have hFc := lw_free (wc := [(m0, .inr (2, [.int 0, .int 0, .null, .null, .null, .null, .int 0, .null, .null, .int 0]))]) (hD.sub [19] (by decide) rfl) hS hA
  refine va_callv (va_runI (As := []) (rest := [.ref m0]) ⟨hx, hb, hml, hown, hB⟩ (kM_init l D H.size cI m0) ⟨callB_of 0 hB gwM_init rfl rfl rfl (hB _ wd_3) (hB _ wd_318) ydM_init ⟨Nat.le_of_ble_eq_true rfl, Nat.le_of_ble_eq_true rfl⟩, rfl, hB _ wd_319⟩ (wr_S hC (hP.sub [19] rfl) (hK.sub [0] rfl) (hD.sub [19] (by decide) rfl)) rfl rfl hl.1 rfl (lv_room (Nat.le_of_ble_eq_true rfl)) dL_law_12 ⟨(Nat.le_of_ble_eq_true rfl), (Nat.le_of_ble_eq_true rfl)⟩) hS (fun q _ h => hFc q h) hFc (fun u t H1 locs ht hvm hw hB1 hz1 hk1 hS => ?_)
  obtain ⟨a1, a2, a3, a4, a5, a6, hP1, hD1⟩ := hB1
  rw [ht] at hP1
  obtain ⟨hP, hD⟩ := va_join (wr := tbW x0 tx ta tq cq cI cT 0 0 (fun _ => 0) (fun _ => 0) (fun _ => 0) (fun _ => 0) (fun _ => 0) (fun _ _ => 0)) (w1 := mwL cI m0 a1 a2 a3 a4 a5 a6 0 0 0 0 (fun _ => 0) (fun _ => 0) (fun _ => 0) (fun _ => 0) (fun _ => 0) (fun _ => 0)) hP hD [19] [0, 1, 2, 3, 4, 5, 6, 7, 8, 9, 10, 11, 12, 13, 14, 15, 16, 17, 18] rfl rfl (by decide) (by decide) hk1 hFc hP1 hD1
  generalize H1 = H at hP hS ⊢
  refine W.widen (k := 26) (n := 22270) (by omega) (by omega) ?_
  refine W.eq (g2 := F0 m 15 ls [.ref m0]) rfl ?_
  refine lv_astore_n (lv' := [(2, .ref m0), (1, .ref x0), (0, .ref b)]) hx hb dL_law_15 rfl hl (by decide) rfl (fun ls hl => ?_)
  refine lv_iconst (v := 1) hx hb dL_law_16 (by decide) ?_
  refine va_newa (atype := .long) (a0 := (1, .inr (.inl (fun _ => 0)))) (N' := 1) (ty := .long) hx hb (hB _ wd_440) rfl hK hP hD hS hA (fun cA => rfl) (by decide) rfl (by decide) (Nat.le_of_ble_eq_true rfl) (Nat.le_of_ble_eq_true rfl) dL_law_17 (fun ou cL H hK hP hD hS => ?_)
  have hK : va_K D tbCl [(cI, .int), (cT, .object "TextureBank$Texture"), (cL, .long)] s := hK
  rw [List.append_assoc] at hP hD
  have hP : va_P D tbCl (lwW x0 tx ta tq cq cI cT cL m0 a1 a2 a3 a4 a5 a6 ou (nI 0) (nI 0) (fun _ => 0) (fun _ => 0) (fun _ => 0) (fun _ => 0) (fun _ => 0) (fun _ _ => 0) 0 (nI 0) (nI 0) 0 (fun _ => 0) (fun _ => 0) (fun _ => 0) (fun _ => 0) (fun _ => 0) (fun _ => 0) (fun _ => 0)) H := hP
  have hD : va_D (fun q => s.heap.size ≤ q) (lwW x0 tx ta tq cq cI cT cL m0 a1 a2 a3 a4 a5 a6 ou (nI 0) (nI 0) (fun _ => 0) (fun _ => 0) (fun _ => 0) (fun _ => 0) (fun _ => 0) (fun _ _ => 0) 0 (nI 0) (nI 0) 0 (fun _ => 0) (fun _ => 0) (fun _ => 0) (fun _ => 0) (fun _ => 0) (fun _ => 0) (fun _ => 0)) := hD
  refine W.widen (k := 27) (n := 22271) (by omega) (by omega) ?_
  refine lv_astore_n (lv' := [(3, .ref ou), (2, .ref m0), (1, .ref x0), (0, .ref b)]) hx hb dL_law_19 rfl hl (by decide) rfl (fun ls hl => ?_)
  refine lv_iconst (v := 0) hx hb dL_law_20 (by decide) ?_
  refine lv_istore (lv' := [(4, .int 0), (3, .ref ou), (2, .ref m0), (1, .ref x0), (0, .ref b)]) hx hb dL_law_21 hl (by decide) rfl (fun ls hl => ?_)
  exact lw_loop ⟨hx, hb, hml, hown, hB, hC, hT, hK, hX, hbl, hZ, hL, hl9⟩ hr hlocks (L + 1) 0 0 0 _ _ _ _ _ _ _ _ _ _ _ _ _ _ _ _ _ (Nat.zero_le _) (by omega) ⟨by omega, by omega, fun i hi => absurd hi (by omega), fun j hj => absurd hj (by omega)⟩ hP hD hS ls (lv_sub hl [0, 4, 3, 2, 1] rfl)

set_option maxHeartbeats 4000000 in
set_option maxRecDepth 100000 in
theorem kT_softColour (l : Launch) (D : va_G) (cI : ClassId) (t0 g0 : Nat) (sd wr sf lv : Int32) (g : Nat → Int32) (s9 : Int32) (a : Int64) (b : Int64) : Met l yT_softColour wT_softColour (k2_rm 2 58) (rd_P [.ref t0, .int s9, .long a, .long b] D [(cI, .int)] [(t0, .inr (0, [.ref g0, .int sd, .int wr, .int sf, .int lv])), (g0, .inl (cI, 1365, .inl g))]) (k2_QcV (.int (tt_soft wr g s9 a b))) 0 0 (fun _ => False) := by
  refine Met.ofW (cc := cT_softColour) (maxL := 25) (ret := (some .int)) (by decide) rfl ?_
  intro p e s m args below meth c s₁ B hml hv
  obtain ⟨rfl, hC, hP, hK⟩ := hv
  have hx := B.exec
  have hb := B.bytes
  have hr := B.returns
  have hB : ∀ w ∈ tbB, w.before _ s = true := fun w h => (atoms_spec (ws := wT_softColour) B.pre) w (List.mem_cons_of_mem _ h)
  have hown : s.vm.findClass "TextureBank$Texture" = some m.cls := findClass_of_methodNamed B.named
  have hlocks := B.notSynchronized
  have hl := lv_entry ([.ref t0, .int s9, .long a, .long b]) (n := 25) (Nat.le_of_ble_eq_true rfl)
  rw [lg_entry_eq]
  generalize (lg_sl ([.ref t0, .int s9, .long a, .long b]) ++ List.replicate (25 - (lg_sl ([.ref t0, .int s9, .long a, .long b])).length) Slot.unset).toArray = ls at hl ⊢
  have hl : lv_has ls 25 [(0, .ref t0), (1, .int s9), (2, .long a), (4, .long b)] := hl
  refine lv_lload_n hx hb dT_softColour_0 rfl (lv_at hl 2 rfl) ?_
  refine lv_ldc2 (v := 65536) hx hb hown (hB _ wd_269) dT_softColour_1 ?_
  refine W.callV (W.runS (As := [.long a, .long 65536]) (rest := []) ⟨hx, hb, hml, hown, hB⟩ (kJ_floorDiv l a 65536 (by decide)) ⟨callB_of 2 hB gwJ_floorDiv rfl rfl rfl (hB _ wd_6) (hB _ wd_119) ydJ_floorDiv ⟨Nat.le_of_ble_eq_true rfl, Nat.le_of_ble_eq_true rfl⟩, hB _ wd_120⟩ (preEq) rfl rfl hl.1 rfl (lv_room (Nat.le_of_ble_eq_true rfl)) dT_softColour_4 ⟨Nat.zero_le _, Nat.zero_le _⟩) ?_
  refine W.eq (g2 := F0 m 7 ls [.long (fd_l a 65536)]) rfl ?_
  refine lv_topl (fun v1 ev1 => ?_)
  refine lv_lstore (lv' := [(6, .long v1), (0, .ref t0), (1, .int s9), (2, .long a), (4, .long b)]) hx hb dT_softColour_7 hl (by decide) rfl (fun ls hl => ?_)
  refine lv_lload hx hb dT_softColour_9 (lv_at hl 4 rfl) ?_
  refine lv_ldc2 (v := 65536) hx hb hown (hB _ wd_269) dT_softColour_11 ?_
  refine W.callV (W.runS (As := [.long b, .long 65536]) (rest := []) ⟨hx, hb, hml, hown, hB⟩ (kJ_floorDiv l b 65536 (by decide)) ⟨callB_of 2 hB gwJ_floorDiv rfl rfl rfl (hB _ wd_6) (hB _ wd_119) ydJ_floorDiv ⟨Nat.le_of_ble_eq_true rfl, Nat.le_of_ble_eq_true rfl⟩, hB _ wd_120⟩ (preEq) rfl rfl hl.1 rfl (lv_room (Nat.le_of_ble_eq_true rfl)) dT_softColour_14 ⟨Nat.zero_le _, Nat.zero_le _⟩) ?_
  refine W.eq (g2 := F0 m 17 ls [.long (fd_l b 65536)]) rfl ?_
  refine lv_topl (fun v2 ev2 => ?_)
  refine lv_lstore (lv' := [(8, .long v2), (6, .long v1), (0, .ref t0), (1, .int s9), (2, .long a), (4, .long b)]) hx hb dT_softColour_17 hl (by decide) rfl (fun ls hl => ?_)
  refine lv_lload_n hx hb dT_softColour_19 rfl (lv_at hl 4 rfl) ?_
  refine lv_ldc2 (v := 65536) hx hb hown (hB _ wd_269) dT_softColour_20 ?_
  refine lv_lload hx hb dT_softColour_23 (lv_at hl 1 rfl) ?_
  refine lv_lmul hx hb dT_softColour_25 ?_
  refine lv_lsub hx hb dT_softColour_26 ?_
  refine lv_ldc2 (v := 256) hx hb hown (hB _ wd_270) dT_softColour_27 ?_
  refine W.callV (W.runS (As := [.long (a - (65536 * v1)), .long 256]) (rest := []) ⟨hx, hb, hml, hown, hB⟩ (kJ_floorDiv l (a - (65536 * v1)) 256 (by decide)) ⟨callB_of 2 hB gwJ_floorDiv rfl rfl rfl (hB _ wd_6) (hB _ wd_119) ydJ_floorDiv ⟨Nat.le_of_ble_eq_true rfl, Nat.le_of_ble_eq_true rfl⟩, hB _ wd_120⟩ (preEq) rfl rfl hl.1 rfl (lv_room (Nat.le_of_ble_eq_true rfl)) dT_softColour_30 ⟨Nat.zero_le _, Nat.zero_le _⟩) ?_
  refine W.eq (g2 := F0 m 33 ls [.long (fd_l (a - (65536 * v1)) 256)]) rfl ?_
  refine lv_topl (fun v3 ev3 => ?_)
  refine lv_lstore (lv' := [(10, .long v3), (8, .long v2), (6, .long v1), (0, .ref t0), (1, .int s9), (2, .long a), (4, .long b)]) hx hb dT_softColour_33 hl (by decide) rfl (fun ls hl => ?_)
  refine lv_lload hx hb dT_softColour_35 (lv_at hl 6 rfl) ?_
  refine lv_ldc2 (v := 65536) hx hb hown (hB _ wd_269) dT_softColour_37 ?_
  refine lv_lload hx hb dT_softColour_40 (lv_at hl 1 rfl) ?_
  refine lv_lmul hx hb dT_softColour_42 ?_
  refine lv_lsub hx hb dT_softColour_43 ?_
  refine lv_ldc2 (v := 256) hx hb hown (hB _ wd_270) dT_softColour_44 ?_
  refine W.callV (W.runS (As := [.long (b - (65536 * v2)), .long 256]) (rest := []) ⟨hx, hb, hml, hown, hB⟩ (kJ_floorDiv l (b - (65536 * v2)) 256 (by decide)) ⟨callB_of 2 hB gwJ_floorDiv rfl rfl rfl (hB _ wd_6) (hB _ wd_119) ydJ_floorDiv ⟨Nat.le_of_ble_eq_true rfl, Nat.le_of_ble_eq_true rfl⟩, hB _ wd_120⟩ (preEq) rfl rfl hl.1 rfl (lv_room (Nat.le_of_ble_eq_true rfl)) dT_softColour_47 ⟨Nat.zero_le _, Nat.zero_le _⟩) ?_
  refine W.eq (g2 := F0 m 50 ls [.long (fd_l (b - (65536 * v2)) 256)]) rfl ?_
  refine lv_topl (fun v4 ev4 => ?_)
  refine lv_lstore (lv' := [(12, .long v4), (10, .long v3), (8, .long v2), (6, .long v1), (0, .ref t0), (1, .int s9), (2, .long a), (4, .long b)]) hx hb dT_softColour_50 hl (by decide) rfl (fun ls hl => ?_)
  refine lv_aload_n hx hb dT_softColour_52 rfl (lv_at hl 4 rfl) ?_
  refine lv_lload hx hb dT_softColour_53 (lv_at hl 3 rfl) ?_
  refine lv_iload_n hx hb dT_softColour_55 rfl (lv_at hl 5 rfl) ?_
  refine W.callV (W.runV (C := "TextureBank$Texture") (As := [.long v1, .int s9]) (rest := []) ⟨hx, hb, hml, hown, hB⟩ (kT_wrapped l D cI t0 g0 sd wr sf lv g v1 s9) ⟨callB_of 2 hB gwT_wrapped rfl rfl rfl (hB _ wd_2) (hB _ wd_271) ydT_wrapped ⟨Nat.le_of_ble_eq_true rfl, Nat.le_of_ble_eq_true rfl⟩, hB _ wd_273, hB _ ws_11⟩ (rd_V hC (hP.sub [0, 1] rfl) (hK.sub [0] rfl) (va_recv hK hP (ci := 0) (q0 := 0) rfl rfl)) rfl rfl hl.1 rfl (lv_room (Nat.le_of_ble_eq_true rfl)) dT_softColour_56 ⟨Nat.zero_le _, Nat.zero_le _⟩) ?_
  refine W.eq (g2 := F0 m 59 ls [.int (tt_wrap wr v1 s9)]) rfl ?_
  refine lv_topi (fun v5 ev5 => ?_)
  refine lv_istore (lv' := [(14, .int v5), (12, .long v4), (10, .long v3), (8, .long v2), (6, .long v1), (0, .ref t0), (1, .int s9), (2, .long a), (4, .long b)]) hx hb dT_softColour_59 hl (by decide) rfl (fun ls hl => ?_)
  refine lv_aload_n hx hb dT_softColour_61 rfl (lv_at hl 5 rfl) ?_
  refine lv_lload hx hb dT_softColour_62 (lv_at hl 4 rfl) ?_
  refine lv_lconst (v := 1) hx hb dT_softColour_64 (by decide) ?_
  refine lv_ladd hx hb dT_softColour_65 ?_
  refine lv_iload_n hx hb dT_softColour_66 rfl (lv_at hl 6 rfl) ?_
  refine W.callV (W.runV (C := "TextureBank$Texture") (As := [.long (v1 + 1), .int s9]) (rest := []) ⟨hx, hb, hml, hown, hB⟩ (kT_wrapped l D cI t0 g0 sd wr sf lv g (v1 + 1) s9) ⟨callB_of 2 hB gwT_wrapped rfl rfl rfl (hB _ wd_2) (hB _ wd_271) ydT_wrapped ⟨Nat.le_of_ble_eq_true rfl, Nat.le_of_ble_eq_true rfl⟩, hB _ wd_273, hB _ ws_11⟩ (rd_V hC (hP.sub [0, 1] rfl) (hK.sub [0] rfl) (va_recv hK hP (ci := 0) (q0 := 0) rfl rfl)) rfl rfl hl.1 rfl (lv_room (Nat.le_of_ble_eq_true rfl)) dT_softColour_67 ⟨Nat.zero_le _, Nat.zero_le _⟩) ?_
  refine W.eq (g2 := F0 m 70 ls [.int (tt_wrap wr (v1 + 1) s9)]) rfl ?_
  refine lv_topi (fun v6 ev6 => ?_)
  refine lv_istore (lv' := [(15, .int v6), (14, .int v5), (12, .long v4), (10, .long v3), (8, .long v2), (6, .long v1), (0, .ref t0), (1, .int s9), (2, .long a), (4, .long b)]) hx hb dT_softColour_70 hl (by decide) rfl (fun ls hl => ?_)
  refine lv_aload_n hx hb dT_softColour_72 rfl (lv_at hl 6 rfl) ?_
  refine lv_lload hx hb dT_softColour_73 (lv_at hl 4 rfl) ?_
  refine lv_iload_n hx hb dT_softColour_75 rfl (lv_at hl 7 rfl) ?_
  refine W.callV (W.runV (C := "TextureBank$Texture") (As := [.long v2, .int s9]) (rest := []) ⟨hx, hb, hml, hown, hB⟩ (kT_wrapped l D cI t0 g0 sd wr sf lv g v2 s9) ⟨callB_of 2 hB gwT_wrapped rfl rfl rfl (hB _ wd_2) (hB _ wd_271) ydT_wrapped ⟨Nat.le_of_ble_eq_true rfl, Nat.le_of_ble_eq_true rfl⟩, hB _ wd_273, hB _ ws_11⟩ (rd_V hC (hP.sub [0, 1] rfl) (hK.sub [0] rfl) (va_recv hK hP (ci := 0) (q0 := 0) rfl rfl)) rfl rfl hl.1 rfl (lv_room (Nat.le_of_ble_eq_true rfl)) dT_softColour_76 ⟨Nat.zero_le _, Nat.zero_le _⟩) ?_
  refine W.eq (g2 := F0 m 79 ls [.int (tt_wrap wr v2 s9)]) rfl ?_
  refine lv_topi (fun v7 ev7 => ?_)
  refine lv_istore (lv' := [(16, .int v7), (15, .int v6), (14, .int v5), (12, .long v4), (10, .long v3), (8, .long v2), (6, .long v1), (0, .ref t0), (1, .int s9), (2, .long a), (4, .long b)]) hx hb dT_softColour_79 hl (by decide) rfl (fun ls hl => ?_)
  refine lv_aload_n hx hb dT_softColour_81 rfl (lv_at hl 7 rfl) ?_
  refine lv_lload hx hb dT_softColour_82 (lv_at hl 5 rfl) ?_
  refine lv_lconst (v := 1) hx hb dT_softColour_84 (by decide) ?_
  refine lv_ladd hx hb dT_softColour_85 ?_
  refine lv_iload_n hx hb dT_softColour_86 rfl (lv_at hl 8 rfl) ?_
  refine W.callV (W.runV (C := "TextureBank$Texture") (As := [.long (v2 + 1), .int s9]) (rest := []) ⟨hx, hb, hml, hown, hB⟩ (kT_wrapped l D cI t0 g0 sd wr sf lv g (v2 + 1) s9) ⟨callB_of 2 hB gwT_wrapped rfl rfl rfl (hB _ wd_2) (hB _ wd_271) ydT_wrapped ⟨Nat.le_of_ble_eq_true rfl, Nat.le_of_ble_eq_true rfl⟩, hB _ wd_273, hB _ ws_11⟩ (rd_V hC (hP.sub [0, 1] rfl) (hK.sub [0] rfl) (va_recv hK hP (ci := 0) (q0 := 0) rfl rfl)) rfl rfl hl.1 rfl (lv_room (Nat.le_of_ble_eq_true rfl)) dT_softColour_87 ⟨Nat.zero_le _, Nat.zero_le _⟩) ?_
  refine W.eq (g2 := F0 m 90 ls [.int (tt_wrap wr (v2 + 1) s9)]) rfl ?_
  refine lv_topi (fun v8 ev8 => ?_)
  refine lv_istore (lv' := [(17, .int v8), (16, .int v7), (15, .int v6), (14, .int v5), (12, .long v4), (10, .long v3), (8, .long v2), (6, .long v1), (0, .ref t0), (1, .int s9), (2, .long a), (4, .long b)]) hx hb dT_softColour_90 hl (by decide) rfl (fun ls hl => ?_)
  refine lv_aload_n hx hb dT_softColour_92 rfl (lv_at hl 8 rfl) ?_
  refine lv_iload_n hx hb dT_softColour_93 rfl (lv_at hl 9 rfl) ?_
  refine lv_iload hx hb dT_softColour_94 (lv_at hl 3 rfl) ?_
  refine lv_iload hx hb dT_softColour_96 (lv_at hl 1 rfl) ?_
  refine W.callV (W.runV (C := "TextureBank$Texture") (As := [.int s9, .int v5, .int v7]) (rest := []) ⟨hx, hb, hml, hown, hB⟩ (kT_colourIn l D cI t0 g0 sd wr sf lv g s9 v5 v7) ⟨callB_of 3 hB gwT_colourIn rfl rfl rfl (hB _ wd_2) (hB _ wd_108) ydT_colourIn ⟨Nat.le_of_ble_eq_true rfl, Nat.le_of_ble_eq_true rfl⟩, hB _ wd_110, hB _ ws_3⟩ (rd_V hC (hP.sub [0, 1] rfl) (hK.sub [0] rfl) (va_recv hK hP (ci := 0) (q0 := 0) rfl rfl)) rfl rfl hl.1 rfl (lv_room (Nat.le_of_ble_eq_true rfl)) dT_softColour_98 ⟨Nat.zero_le _, Nat.zero_le _⟩) ?_
  refine W.eq (g2 := F0 m 101 ls [.int (tt_at g s9 v5 v7)]) rfl ?_
  refine lv_topi (fun v9 ev9 => ?_)
  refine lv_istore (lv' := [(18, .int v9), (17, .int v8), (16, .int v7), (15, .int v6), (14, .int v5), (12, .long v4), (10, .long v3), (8, .long v2), (6, .long v1), (0, .ref t0), (1, .int s9), (2, .long a), (4, .long b)]) hx hb dT_softColour_101 hl (by decide) rfl (fun ls hl => ?_)
  refine lv_aload_n hx hb dT_softColour_103 rfl (lv_at hl 9 rfl) ?_
  refine lv_iload_n hx hb dT_softColour_104 rfl (lv_at hl 10 rfl) ?_
  refine lv_iload hx hb dT_softColour_105 (lv_at hl 3 rfl) ?_
  refine lv_iload hx hb dT_softColour_107 (lv_at hl 2 rfl) ?_
  refine W.callV (W.runV (C := "TextureBank$Texture") (As := [.int s9, .int v6, .int v7]) (rest := []) ⟨hx, hb, hml, hown, hB⟩ (kT_colourIn l D cI t0 g0 sd wr sf lv g s9 v6 v7) ⟨callB_of 3 hB gwT_colourIn rfl rfl rfl (hB _ wd_2) (hB _ wd_108) ydT_colourIn ⟨Nat.le_of_ble_eq_true rfl, Nat.le_of_ble_eq_true rfl⟩, hB _ wd_110, hB _ ws_3⟩ (rd_V hC (hP.sub [0, 1] rfl) (hK.sub [0] rfl) (va_recv hK hP (ci := 0) (q0 := 0) rfl rfl)) rfl rfl hl.1 rfl (lv_room (Nat.le_of_ble_eq_true rfl)) dT_softColour_109 ⟨Nat.zero_le _, Nat.zero_le _⟩) ?_
  refine W.eq (g2 := F0 m 112 ls [.int (tt_at g s9 v6 v7)]) rfl ?_
  refine lv_topi (fun v10 ev10 => ?_)
  refine lv_istore (lv' := [(19, .int v10), (18, .int v9), (17, .int v8), (16, .int v7), (15, .int v6), (14, .int v5), (12, .long v4), (10, .long v3), (8, .long v2), (6, .long v1), (0, .ref t0), (1, .int s9), (2, .long a), (4, .long b)]) hx hb dT_softColour_112 hl (by decide) rfl (fun ls hl => ?_)
  refine lv_aload_n hx hb dT_softColour_114 rfl (lv_at hl 10 rfl) ?_
  refine lv_iload_n hx hb dT_softColour_115 rfl (lv_at hl 11 rfl) ?_
  refine lv_iload hx hb dT_softColour_116 (lv_at hl 5 rfl) ?_
  refine lv_iload hx hb dT_softColour_118 (lv_at hl 2 rfl) ?_
  refine W.callV (W.runV (C := "TextureBank$Texture") (As := [.int s9, .int v5, .int v8]) (rest := []) ⟨hx, hb, hml, hown, hB⟩ (kT_colourIn l D cI t0 g0 sd wr sf lv g s9 v5 v8) ⟨callB_of 3 hB gwT_colourIn rfl rfl rfl (hB _ wd_2) (hB _ wd_108) ydT_colourIn ⟨Nat.le_of_ble_eq_true rfl, Nat.le_of_ble_eq_true rfl⟩, hB _ wd_110, hB _ ws_3⟩ (rd_V hC (hP.sub [0, 1] rfl) (hK.sub [0] rfl) (va_recv hK hP (ci := 0) (q0 := 0) rfl rfl)) rfl rfl hl.1 rfl (lv_room (Nat.le_of_ble_eq_true rfl)) dT_softColour_120 ⟨Nat.zero_le _, Nat.zero_le _⟩) ?_
  refine W.eq (g2 := F0 m 123 ls [.int (tt_at g s9 v5 v8)]) rfl ?_
  refine lv_topi (fun v11 ev11 => ?_)
  refine lv_istore (lv' := [(20, .int v11), (19, .int v10), (18, .int v9), (17, .int v8), (16, .int v7), (15, .int v6), (14, .int v5), (12, .long v4), (10, .long v3), (8, .long v2), (6, .long v1), (0, .ref t0), (1, .int s9), (2, .long a), (4, .long b)]) hx hb dT_softColour_123 hl (by decide) rfl (fun ls hl => ?_)
  refine lv_aload_n hx hb dT_softColour_125 rfl (lv_at hl 11 rfl) ?_
  refine lv_iload_n hx hb dT_softColour_126 rfl (lv_at hl 12 rfl) ?_
  refine lv_iload hx hb dT_softColour_127 (lv_at hl 5 rfl) ?_
  refine lv_iload hx hb dT_softColour_129 (lv_at hl 3 rfl) ?_
  refine W.callV (W.runV (C := "TextureBank$Texture") (As := [.int s9, .int v6, .int v8]) (rest := []) ⟨hx, hb, hml, hown, hB⟩ (kT_colourIn l D cI t0 g0 sd wr sf lv g s9 v6 v8) ⟨callB_of 3 hB gwT_colourIn rfl rfl rfl (hB _ wd_2) (hB _ wd_108) ydT_colourIn ⟨Nat.le_of_ble_eq_true rfl, Nat.le_of_ble_eq_true rfl⟩, hB _ wd_110, hB _ ws_3⟩ (rd_V hC (hP.sub [0, 1] rfl) (hK.sub [0] rfl) (va_recv hK hP (ci := 0) (q0 := 0) rfl rfl)) rfl rfl hl.1 rfl (lv_room (Nat.le_of_ble_eq_true rfl)) dT_softColour_131 ⟨Nat.zero_le _, Nat.zero_le _⟩) ?_
  refine W.eq (g2 := F0 m 134 ls [.int (tt_at g s9 v6 v8)]) rfl ?_
  refine lv_topi (fun v12 ev12 => ?_)
  refine lv_istore (lv' := [(21, .int v12), (20, .int v11), (19, .int v10), (18, .int v9), (17, .int v8), (16, .int v7), (15, .int v6), (14, .int v5), (12, .long v4), (10, .long v3), (8, .long v2), (6, .long v1), (0, .ref t0), (1, .int s9), (2, .long a), (4, .long b)]) hx hb dT_softColour_134 hl (by decide) rfl (fun ls hl => ?_)
  refine lv_iload hx hb dT_softColour_136 (lv_at hl 3 rfl) ?_
  refine lv_iload hx hb dT_softColour_138 (lv_at hl 2 rfl) ?_
  refine lv_lload hx hb dT_softColour_140 (lv_at hl 9 rfl) ?_
  refine lv_bipush (v := 16) hx hb dT_softColour_142 (by decide) ?_
  refine W.callV (W.runS (As := [.int v9, .int v10, .long v3, .int 16]) (rest := []) ⟨hx, hb, hml, hown, hB⟩ (kT_mixed l D v9 v10 v3 16) ⟨callB_of 4 hB gwT_mixed rfl rfl rfl (hB _ wd_2) (hB _ wd_281) ydT_mixed ⟨Nat.le_of_ble_eq_true rfl, Nat.le_of_ble_eq_true rfl⟩, hB _ wd_282⟩ (rd_S hC tbP0 (hK.sub [] rfl)) rfl rfl hl.1 rfl (lv_room (Nat.le_of_ble_eq_true rfl)) dT_softColour_144 ⟨Nat.zero_le _, Nat.zero_le _⟩) ?_
  refine W.eq (g2 := F0 m 147 ls [.long (tt_mix v9 v10 v3 16)]) rfl ?_
  refine lv_iload hx hb dT_softColour_147 (lv_at hl 1 rfl) ?_
  refine lv_iload hx hb dT_softColour_149 (lv_at hl 0 rfl) ?_
  refine lv_lload hx hb dT_softColour_151 (lv_at hl 9 rfl) ?_
  refine lv_bipush (v := 16) hx hb dT_softColour_153 (by decide) ?_
  refine W.callV (W.runS (As := [.int v11, .int v12, .long v3, .int 16]) (rest := [.long (tt_mix v9 v10 v3 16)]) ⟨hx, hb, hml, hown, hB⟩ (kT_mixed l D v11 v12 v3 16) ⟨callB_of 4 hB gwT_mixed rfl rfl rfl (hB _ wd_2) (hB _ wd_281) ydT_mixed ⟨Nat.le_of_ble_eq_true rfl, Nat.le_of_ble_eq_true rfl⟩, hB _ wd_282⟩ (rd_S hC tbP0 (hK.sub [] rfl)) rfl rfl hl.1 rfl (lv_room (Nat.le_of_ble_eq_true rfl)) dT_softColour_155 ⟨Nat.zero_le _, Nat.zero_le _⟩) ?_
  refine W.eq (g2 := F0 m 158 ls [.long (tt_mix v11 v12 v3 16), .long (tt_mix v9 v10 v3 16)]) rfl ?_
  refine lv_lload hx hb dT_softColour_158 (lv_at hl 8 rfl) ?_
  refine W.callV (W.runS (As := [.long (tt_mix v9 v10 v3 16), .long (tt_mix v11 v12 v3 16), .long v4]) (rest := []) ⟨hx, hb, hml, hown, hB⟩ (kT_softNumber l (tt_mix v9 v10 v3 16) (tt_mix v11 v12 v3 16) v4) ⟨callB_of 3 hB gwT_softNumber rfl rfl rfl (hB _ wd_2) (hB _ wd_284) ydT_softNumber ⟨Nat.le_of_ble_eq_true rfl, Nat.le_of_ble_eq_true rfl⟩, hB _ wd_285⟩ (preEq) rfl rfl hl.1 rfl (lv_room (Nat.le_of_ble_eq_true rfl)) dT_softColour_160 ⟨Nat.zero_le _, Nat.zero_le _⟩) ?_
  refine W.eq (g2 := F0 m 163 ls [.int (tt_sn (tt_mix v9 v10 v3 16) (tt_mix v11 v12 v3 16) v4)]) rfl ?_
  refine lv_topi (fun v13 ev13 => ?_)
  refine lv_istore (lv' := [(22, .int v13), (21, .int v12), (20, .int v11), (19, .int v10), (18, .int v9), (17, .int v8), (16, .int v7), (15, .int v6), (14, .int v5), (12, .long v4), (10, .long v3), (8, .long v2), (6, .long v1), (0, .ref t0), (1, .int s9), (2, .long a), (4, .long b)]) hx hb dT_softColour_163 hl (by decide) rfl (fun ls hl => ?_)
  refine lv_iload hx hb dT_softColour_165 (lv_at hl 4 rfl) ?_
  refine lv_iload hx hb dT_softColour_167 (lv_at hl 3 rfl) ?_
  refine lv_lload hx hb dT_softColour_169 (lv_at hl 10 rfl) ?_
  refine lv_bipush (v := 8) hx hb dT_softColour_171 (by decide) ?_
  refine W.callV (W.runS (As := [.int v9, .int v10, .long v3, .int 8]) (rest := []) ⟨hx, hb, hml, hown, hB⟩ (kT_mixed l D v9 v10 v3 8) ⟨callB_of 4 hB gwT_mixed rfl rfl rfl (hB _ wd_2) (hB _ wd_281) ydT_mixed ⟨Nat.le_of_ble_eq_true rfl, Nat.le_of_ble_eq_true rfl⟩, hB _ wd_282⟩ (rd_S hC tbP0 (hK.sub [] rfl)) rfl rfl hl.1 rfl (lv_room (Nat.le_of_ble_eq_true rfl)) dT_softColour_173 ⟨Nat.zero_le _, Nat.zero_le _⟩) ?_
  refine W.eq (g2 := F0 m 176 ls [.long (tt_mix v9 v10 v3 8)]) rfl ?_
  refine lv_iload hx hb dT_softColour_176 (lv_at hl 2 rfl) ?_
  refine lv_iload hx hb dT_softColour_178 (lv_at hl 1 rfl) ?_
  refine lv_lload hx hb dT_softColour_180 (lv_at hl 10 rfl) ?_
  refine lv_bipush (v := 8) hx hb dT_softColour_182 (by decide) ?_
  refine W.callV (W.runS (As := [.int v11, .int v12, .long v3, .int 8]) (rest := [.long (tt_mix v9 v10 v3 8)]) ⟨hx, hb, hml, hown, hB⟩ (kT_mixed l D v11 v12 v3 8) ⟨callB_of 4 hB gwT_mixed rfl rfl rfl (hB _ wd_2) (hB _ wd_281) ydT_mixed ⟨Nat.le_of_ble_eq_true rfl, Nat.le_of_ble_eq_true rfl⟩, hB _ wd_282⟩ (rd_S hC tbP0 (hK.sub [] rfl)) rfl rfl hl.1 rfl (lv_room (Nat.le_of_ble_eq_true rfl)) dT_softColour_184 ⟨Nat.zero_le _, Nat.zero_le _⟩) ?_
  refine W.eq (g2 := F0 m 187 ls [.long (tt_mix v11 v12 v3 8), .long (tt_mix v9 v10 v3 8)]) rfl ?_
  refine lv_lload hx hb dT_softColour_187 (lv_at hl 9 rfl) ?_
  refine W.callV (W.runS (As := [.long (tt_mix v9 v10 v3 8), .long (tt_mix v11 v12 v3 8), .long v4]) (rest := []) ⟨hx, hb, hml, hown, hB⟩ (kT_softNumber l (tt_mix v9 v10 v3 8) (tt_mix v11 v12 v3 8) v4) ⟨callB_of 3 hB gwT_softNumber rfl rfl rfl (hB _ wd_2) (hB _ wd_284) ydT_softNumber ⟨Nat.le_of_ble_eq_true rfl, Nat.le_of_ble_eq_true rfl⟩, hB _ wd_285⟩ (preEq) rfl rfl hl.1 rfl (lv_room (Nat.le_of_ble_eq_true rfl)) dT_softColour_189 ⟨Nat.zero_le _, Nat.zero_le _⟩) ?_
  refine W.eq (g2 := F0 m 192 ls [.int (tt_sn (tt_mix v9 v10 v3 8) (tt_mix v11 v12 v3 8) v4)]) rfl ?_
  refine lv_topi (fun v14 ev14 => ?_)
  refine lv_istore (lv' := [(23, .int v14), (22, .int v13), (21, .int v12), (20, .int v11), (19, .int v10), (18, .int v9), (17, .int v8), (16, .int v7), (15, .int v6), (14, .int v5), (12, .long v4), (10, .long v3), (8, .long v2), (6, .long v1), (0, .ref t0), (1, .int s9), (2, .long a), (4, .long b)]) hx hb dT_softColour_192 hl (by decide) rfl (fun ls hl => ?_)
  refine lv_iload hx hb dT_softColour_194 (lv_at hl 5 rfl) ?_
  refine lv_iload hx hb dT_softColour_196 (lv_at hl 4 rfl) ?_
  refine lv_lload hx hb dT_softColour_198 (lv_at hl 11 rfl) ?_
  refine lv_iconst (v := 0) hx hb dT_softColour_200 (by decide) ?_
  refine W.callV (W.runS (As := [.int v9, .int v10, .long v3, .int 0]) (rest := []) ⟨hx, hb, hml, hown, hB⟩ (kT_mixed l D v9 v10 v3 0) ⟨callB_of 4 hB gwT_mixed rfl rfl rfl (hB _ wd_2) (hB _ wd_281) ydT_mixed ⟨Nat.le_of_ble_eq_true rfl, Nat.le_of_ble_eq_true rfl⟩, hB _ wd_282⟩ (rd_S hC tbP0 (hK.sub [] rfl)) rfl rfl hl.1 rfl (lv_room (Nat.le_of_ble_eq_true rfl)) dT_softColour_201 ⟨Nat.zero_le _, Nat.zero_le _⟩) ?_
  refine W.eq (g2 := F0 m 204 ls [.long (tt_mix v9 v10 v3 0)]) rfl ?_
  refine lv_iload hx hb dT_softColour_204 (lv_at hl 3 rfl) ?_
  refine lv_iload hx hb dT_softColour_206 (lv_at hl 2 rfl) ?_
  refine lv_lload hx hb dT_softColour_208 (lv_at hl 11 rfl) ?_
  refine lv_iconst (v := 0) hx hb dT_softColour_210 (by decide) ?_
  refine W.callV (W.runS (As := [.int v11, .int v12, .long v3, .int 0]) (rest := [.long (tt_mix v9 v10 v3 0)]) ⟨hx, hb, hml, hown, hB⟩ (kT_mixed l D v11 v12 v3 0) ⟨callB_of 4 hB gwT_mixed rfl rfl rfl (hB _ wd_2) (hB _ wd_281) ydT_mixed ⟨Nat.le_of_ble_eq_true rfl, Nat.le_of_ble_eq_true rfl⟩, hB _ wd_282⟩ (rd_S hC tbP0 (hK.sub [] rfl)) rfl rfl hl.1 rfl (lv_room (Nat.le_of_ble_eq_true rfl)) dT_softColour_211 ⟨Nat.zero_le _, Nat.zero_le _⟩) ?_
  refine W.eq (g2 := F0 m 214 ls [.long (tt_mix v11 v12 v3 0), .long (tt_mix v9 v10 v3 0)]) rfl ?_
  refine lv_lload hx hb dT_softColour_214 (lv_at hl 10 rfl) ?_
  refine W.callV (W.runS (As := [.long (tt_mix v9 v10 v3 0), .long (tt_mix v11 v12 v3 0), .long v4]) (rest := []) ⟨hx, hb, hml, hown, hB⟩ (kT_softNumber l (tt_mix v9 v10 v3 0) (tt_mix v11 v12 v3 0) v4) ⟨callB_of 3 hB gwT_softNumber rfl rfl rfl (hB _ wd_2) (hB _ wd_284) ydT_softNumber ⟨Nat.le_of_ble_eq_true rfl, Nat.le_of_ble_eq_true rfl⟩, hB _ wd_285⟩ (preEq) rfl rfl hl.1 rfl (lv_room (Nat.le_of_ble_eq_true rfl)) dT_softColour_216 ⟨Nat.zero_le _, Nat.zero_le _⟩) ?_
  refine W.eq (g2 := F0 m 219 ls [.int (tt_sn (tt_mix v9 v10 v3 0) (tt_mix v11 v12 v3 0) v4)]) rfl ?_
  refine lv_topi (fun v15 ev15 => ?_)
  refine lv_istore (lv' := [(24, .int v15), (23, .int v14), (22, .int v13), (21, .int v12), (20, .int v11), (19, .int v10), (18, .int v9), (17, .int v8), (16, .int v7), (15, .int v6), (14, .int v5), (12, .long v4), (10, .long v3), (8, .long v2), (6, .long v1), (0, .ref t0), (1, .int s9), (2, .long a), (4, .long b)]) hx hb dT_softColour_219 hl (by decide) rfl (fun ls hl => ?_)
  refine lv_iload hx hb dT_softColour_221 (lv_at hl 2 rfl) ?_
  refine lv_iload hx hb dT_softColour_223 (lv_at hl 1 rfl) ?_
  refine lv_iload hx hb dT_softColour_225 (lv_at hl 0 rfl) ?_
  refine W.callV (run_of (va_runSN (As := [.int v13, .int v14, .int v15]) (rest := []) ⟨hx, hb, hml, hown, hB⟩ (kB_colourOf l v13 v14 v15) ⟨va_cnB 3 hB gwB_colourOf rfl rfl rfl (hC.2.2.2.2.2.2.2.1) (hB _ wd_1) ydB_colourOf ⟨Nat.le_of_ble_eq_true rfl, Nat.le_of_ble_eq_true rfl⟩, hB _ wd_69, trivial⟩ (preEq) rfl rfl hl.1 rfl (lv_room (Nat.le_of_ble_eq_true rfl)) dT_softColour_227 ⟨Nat.zero_le _, Nat.zero_le _⟩)) ?_
  refine W.eq (g2 := F0 m 230 ls [.int (tt_col v13 v14 v15)]) rfl ?_
  exact W.iret hx hb hr (fun t ht _ => ⟨tbI (by subst ev1; subst ev2; subst ev3; subst ev4; subst ev5; subst ev6; subst ev7; subst ev8; subst ev9; subst ev10; subst ev11; subst ev12; subst ev13; subst ev14; subst ev15; rfl), ht⟩) (fun q hq => nomatch hq) dT_softColour_230

set_option maxHeartbeats 4000000 in
set_option maxRecDepth 100000 in
theorem kT_colourAt (l : Launch) (D : va_G) (cI : ClassId) (t0 g0 : Nat) (sd wr sf lv : Int32) (g : Nat → Int32) (s9 : Int32) (u : Int64) (v : Int64) : Met l yT_colourAt wT_colourAt (k2_rm 3 102) (rd_P [.ref t0, .int s9, .long u, .long v] D [(cI, .int)] [(t0, .inr (0, [.ref g0, .int sd, .int wr, .int sf, .int lv])), (g0, .inl (cI, 1365, .inl g))]) (k2_QcV (.int (tt_cat wr sf g s9 u v))) 0 0 (fun _ => False) := by
  refine Met.ofW (cc := cT_colourAt) (maxL := 10) (ret := (some .int)) (by decide) rfl ?_
  intro p e s m args below meth c s₁ B hml hv
  obtain ⟨rfl, hC, hP, hK⟩ := hv
  have hx := B.exec
  have hb := B.bytes
  have hr := B.returns
  have hB : ∀ w ∈ tbB, w.before _ s = true := fun w h => (atoms_spec (ws := wT_colourAt) B.pre) w (List.mem_cons_of_mem _ h)
  have hown : s.vm.findClass "TextureBank$Texture" = some m.cls := findClass_of_methodNamed B.named
  have hlocks := B.notSynchronized
  have hl := lv_entry ([.ref t0, .int s9, .long u, .long v]) (n := 10) (Nat.le_of_ble_eq_true rfl)
  rw [lg_entry_eq]
  generalize (lg_sl ([.ref t0, .int s9, .long u, .long v]) ++ List.replicate (10 - (lg_sl ([.ref t0, .int s9, .long u, .long v])).length) Slot.unset).toArray = ls at hl ⊢
  have hl : lv_has ls 10 [(0, .ref t0), (1, .int s9), (2, .long u), (4, .long v)] := hl
  refine lv_lload_n hx hb dT_colourAt_0 rfl (lv_at hl 2 rfl) ?_
  refine lv_iload_n hx hb dT_colourAt_1 rfl (lv_at hl 1 rfl) ?_
  refine lv_i2l hx hb dT_colourAt_2 rfl ?_
  refine lv_lmul hx hb dT_colourAt_3 ?_
  refine lv_lstore (lv' := [(6, .long (u * s9.toInt64)), (0, .ref t0), (1, .int s9), (2, .long u), (4, .long v)]) hx hb dT_colourAt_4 hl (by decide) rfl (fun ls hl => ?_)
  refine lv_lload hx hb dT_colourAt_6 (lv_at hl 4 rfl) ?_
  refine lv_iload_n hx hb dT_colourAt_8 rfl (lv_at hl 2 rfl) ?_
  refine lv_i2l hx hb dT_colourAt_9 rfl ?_
  refine lv_lmul hx hb dT_colourAt_10 ?_
  refine lv_lstore (lv' := [(8, .long (v * s9.toInt64)), (6, .long (u * s9.toInt64)), (0, .ref t0), (1, .int s9), (2, .long u), (4, .long v)]) hx hb dT_colourAt_11 hl (by decide) rfl (fun ls hl => ?_)
  refine lv_aload_n hx hb dT_colourAt_13 rfl (lv_at hl 2 rfl) ?_
  refine va_get (D := D) (ci := 0) (v := .int sf) (C := RT) (T := FT) (N := 5) hx hb hB inT hown hK hP 0 rfl rfl 3 (by decide) (hB _ wd_32) (fun _ h9 => h9) rfl dT_colourAt_14 ?_
  refine lv_iconst (v := 1) hx hb dT_colourAt_17 (by decide) ?_
  refine lv_icmp_ne (tgt := 39) hx hb dT_colourAt_18 (by decide) (fun c_1 => ?_) (fun c_1 => ?_)
  · refine lv_aload_n hx hb dT_colourAt_39 rfl (lv_at hl 2 rfl) ?_
    refine lv_iload_n hx hb dT_colourAt_40 rfl (lv_at hl 3 rfl) ?_
    refine lv_aload_n hx hb dT_colourAt_41 rfl (lv_at hl 2 rfl) ?_
    refine lv_lload hx hb dT_colourAt_42 (lv_at hl 1 rfl) ?_
    refine lv_ldc2 (v := 65536) hx hb hown (hB _ wd_269) dT_colourAt_44 ?_
    refine W.callV (W.runS (As := [.long (u * s9.toInt64), .long 65536]) (rest := [.ref t0, .int s9, .ref t0]) ⟨hx, hb, hml, hown, hB⟩ (kJ_floorDiv l (u * s9.toInt64) 65536 (by decide)) ⟨callB_of 2 hB gwJ_floorDiv rfl rfl rfl (hB _ wd_6) (hB _ wd_119) ydJ_floorDiv ⟨Nat.le_of_ble_eq_true rfl, Nat.le_of_ble_eq_true rfl⟩, hB _ wd_120⟩ (preEq) rfl rfl hl.1 rfl (lv_room (Nat.le_of_ble_eq_true rfl)) dT_colourAt_47 ⟨Nat.zero_le _, Nat.zero_le _⟩) ?_
    refine W.eq (g2 := F0 m 50 ls [.long (fd_l (u * s9.toInt64) 65536), .ref t0, .int s9, .ref t0]) rfl ?_
    refine lv_iload_n hx hb dT_colourAt_50 rfl (lv_at hl 3 rfl) ?_
    refine W.callV (W.runV (C := "TextureBank$Texture") (As := [.long (fd_l (u * s9.toInt64) 65536), .int s9]) (rest := [.int s9, .ref t0]) ⟨hx, hb, hml, hown, hB⟩ (kT_wrapped l D cI t0 g0 sd wr sf lv g (fd_l (u * s9.toInt64) 65536) s9) ⟨callB_of 2 hB gwT_wrapped rfl rfl rfl (hB _ wd_2) (hB _ wd_271) ydT_wrapped ⟨Nat.le_of_ble_eq_true rfl, Nat.le_of_ble_eq_true rfl⟩, hB _ wd_273, hB _ ws_11⟩ (rd_V hC (hP.sub [0, 1] rfl) (hK.sub [0] rfl) (va_recv hK hP (ci := 0) (q0 := 0) rfl rfl)) rfl rfl hl.1 rfl (lv_room (Nat.le_of_ble_eq_true rfl)) dT_colourAt_51 ⟨Nat.zero_le _, Nat.zero_le _⟩) ?_
    refine W.eq (g2 := F0 m 54 ls [.int (tt_wrap wr (fd_l (u * s9.toInt64) 65536) s9), .int s9, .ref t0]) rfl ?_
    refine lv_aload_n hx hb dT_colourAt_54 rfl (lv_at hl 2 rfl) ?_
    refine lv_lload hx hb dT_colourAt_55 (lv_at hl 0 rfl) ?_
    refine lv_ldc2 (v := 65536) hx hb hown (hB _ wd_269) dT_colourAt_57 ?_
    refine W.callV (W.runS (As := [.long (v * s9.toInt64), .long 65536]) (rest := [.ref t0, .int (tt_wrap wr (fd_l (u * s9.toInt64) 65536) s9), .int s9, .ref t0]) ⟨hx, hb, hml, hown, hB⟩ (kJ_floorDiv l (v * s9.toInt64) 65536 (by decide)) ⟨callB_of 2 hB gwJ_floorDiv rfl rfl rfl (hB _ wd_6) (hB _ wd_119) ydJ_floorDiv ⟨Nat.le_of_ble_eq_true rfl, Nat.le_of_ble_eq_true rfl⟩, hB _ wd_120⟩ (preEq) rfl rfl hl.1 rfl (lv_room (Nat.le_of_ble_eq_true rfl)) dT_colourAt_60 ⟨Nat.zero_le _, Nat.zero_le _⟩) ?_
    refine W.eq (g2 := F0 m 63 ls [.long (fd_l (v * s9.toInt64) 65536), .ref t0, .int (tt_wrap wr (fd_l (u * s9.toInt64) 65536) s9), .int s9, .ref t0]) rfl ?_
    refine lv_iload_n hx hb dT_colourAt_63 rfl (lv_at hl 3 rfl) ?_
    refine W.callV (W.runV (C := "TextureBank$Texture") (As := [.long (fd_l (v * s9.toInt64) 65536), .int s9]) (rest := [.int (tt_wrap wr (fd_l (u * s9.toInt64) 65536) s9), .int s9, .ref t0]) ⟨hx, hb, hml, hown, hB⟩ (kT_wrapped l D cI t0 g0 sd wr sf lv g (fd_l (v * s9.toInt64) 65536) s9) ⟨callB_of 2 hB gwT_wrapped rfl rfl rfl (hB _ wd_2) (hB _ wd_271) ydT_wrapped ⟨Nat.le_of_ble_eq_true rfl, Nat.le_of_ble_eq_true rfl⟩, hB _ wd_273, hB _ ws_11⟩ (rd_V hC (hP.sub [0, 1] rfl) (hK.sub [0] rfl) (va_recv hK hP (ci := 0) (q0 := 0) rfl rfl)) rfl rfl hl.1 rfl (lv_room (Nat.le_of_ble_eq_true rfl)) dT_colourAt_64 ⟨Nat.zero_le _, Nat.zero_le _⟩) ?_
    refine W.eq (g2 := F0 m 67 ls [.int (tt_wrap wr (fd_l (v * s9.toInt64) 65536) s9), .int (tt_wrap wr (fd_l (u * s9.toInt64) 65536) s9), .int s9, .ref t0]) rfl ?_
    refine W.callV (W.runV (C := "TextureBank$Texture") (As := [.int s9, .int (tt_wrap wr (fd_l (u * s9.toInt64) 65536) s9), .int (tt_wrap wr (fd_l (v * s9.toInt64) 65536) s9)]) (rest := []) ⟨hx, hb, hml, hown, hB⟩ (kT_colourIn l D cI t0 g0 sd wr sf lv g s9 (tt_wrap wr (fd_l (u * s9.toInt64) 65536) s9) (tt_wrap wr (fd_l (v * s9.toInt64) 65536) s9)) ⟨callB_of 3 hB gwT_colourIn rfl rfl rfl (hB _ wd_2) (hB _ wd_108) ydT_colourIn ⟨Nat.le_of_ble_eq_true rfl, Nat.le_of_ble_eq_true rfl⟩, hB _ wd_110, hB _ ws_3⟩ (rd_V hC (hP.sub [0, 1] rfl) (hK.sub [0] rfl) (va_recv hK hP (ci := 0) (q0 := 0) rfl rfl)) rfl rfl hl.1 rfl (lv_room (Nat.le_of_ble_eq_true rfl)) dT_colourAt_67 ⟨Nat.zero_le _, Nat.zero_le _⟩) ?_
    refine W.eq (g2 := F0 m 70 ls [.int (tt_at g s9 (tt_wrap wr (fd_l (u * s9.toInt64) 65536) s9) (tt_wrap wr (fd_l (v * s9.toInt64) 65536) s9))]) rfl ?_
    exact W.iret hx hb hr (fun t ht _ => ⟨tbI (by unfold tt_cat; (first | rw [if_pos c_1] | rw [if_neg c_1])), ht⟩) (fun q hq => nomatch hq) dT_colourAt_70
  · refine lv_aload_n hx hb dT_colourAt_21 rfl (lv_at hl 2 rfl) ?_
    refine lv_iload_n hx hb dT_colourAt_22 rfl (lv_at hl 3 rfl) ?_
    refine lv_lload hx hb dT_colourAt_23 (lv_at hl 1 rfl) ?_
    refine lv_ldc2 (v := 32768) hx hb hown (hB _ wd_264) dT_colourAt_25 ?_
    refine lv_lsub hx hb dT_colourAt_28 ?_
    refine lv_lload hx hb dT_colourAt_29 (lv_at hl 0 rfl) ?_
    refine lv_ldc2 (v := 32768) hx hb hown (hB _ wd_264) dT_colourAt_31 ?_
    refine lv_lsub hx hb dT_colourAt_34 ?_
    refine W.callV (W.runV (C := "TextureBank$Texture") (As := [.int s9, .long ((u * s9.toInt64) - 32768), .long ((v * s9.toInt64) - 32768)]) (rest := []) ⟨hx, hb, hml, hown, hB⟩ (kT_softColour l D cI t0 g0 sd wr sf lv g s9 ((u * s9.toInt64) - 32768) ((v * s9.toInt64) - 32768)) ⟨callB_of 3 hB gwT_softColour rfl rfl rfl (hB _ wd_2) (hB _ wd_265) ydT_softColour ⟨Nat.le_of_ble_eq_true rfl, Nat.le_of_ble_eq_true rfl⟩, hB _ wd_267, hB _ ws_10⟩ (rd_V hC (hP.sub [0, 1] rfl) (hK.sub [0] rfl) (va_recv hK hP (ci := 0) (q0 := 0) rfl rfl)) rfl rfl hl.1 rfl (lv_room (Nat.le_of_ble_eq_true rfl)) dT_colourAt_35 ⟨Nat.zero_le _, Nat.zero_le _⟩) ?_
    refine W.eq (g2 := F0 m 38 ls [.int (tt_soft wr g s9 ((u * s9.toInt64) - 32768) ((v * s9.toInt64) - 32768))]) rfl ?_
    exact W.iret hx hb hr (fun t ht _ => ⟨tbI (by unfold tt_cat; (first | rw [if_pos c_1] | rw [if_neg c_1])), ht⟩) (fun q hq => nomatch hq) dT_colourAt_38

set_option maxHeartbeats 4000000 in
set_option maxRecDepth 100000 in
theorem kT_levelFor (l : Launch) (D : va_G) (cI : ClassId) (t0 g0 : Nat) (sd wr sf : Int32) (kk : Nat) (hkk : kk ≤ 6) (g : Nat → Int32) (sp ar : Int64) : Met l yT_levelFor wT_levelFor (k2_rm 0 0) (rd_P [.ref t0, .long sp, .long ar] D [(cI, .int)] [(t0, .inr (0, [.ref g0, .int sd, .int wr, .int sf, .int (nI (kk + 1))])), (g0, .inl (cI, 1365, .inl g))]) (k2_QcV (.int (tt_lf ((sp * sd.toInt64) * sd.toInt64) (nI kk) 8 (ar * 16777216) 0))) 0 0 (fun _ => False) := by
  refine Met.ofW (cc := cT_levelFor) (maxL := 11) (ret := (some .int)) (by decide) rfl ?_
  intro p e s m args below meth c s₁ B hml hv
  obtain ⟨rfl, hC, hP, hK⟩ := hv
  have hx := B.exec
  have hb := B.bytes
  have hr := B.returns
  have hB : ∀ w ∈ tbB, w.before _ s = true := fun w h => (atoms_spec (ws := wT_levelFor) B.pre) w (List.mem_cons_of_mem _ h)
  have hown : s.vm.findClass "TextureBank$Texture" = some m.cls := findClass_of_methodNamed B.named
  have hlocks := B.notSynchronized
  have hl := lv_entry ([.ref t0, .long sp, .long ar]) (n := 11) (Nat.le_of_ble_eq_true rfl)
  rw [lg_entry_eq]
  generalize (lg_sl ([.ref t0, .long sp, .long ar]) ++ List.replicate (11 - (lg_sl ([.ref t0, .long sp, .long ar])).length) Slot.unset).toArray = ls at hl ⊢
  have hl : lv_has ls 11 [(0, .ref t0), (1, .long sp), (3, .long ar)] := hl
  have loop : ∀ tx : Int64, tx = (sp * sd.toInt64) * sd.toInt64 → ∀ (n j : Nat) (rm : Int64), j ≤ kk → kk + 1 ≤ j + n → tt_lf tx (nI kk) n rm (nI j) = tt_lf ((sp * sd.toInt64) * sd.toInt64) (nI kk) 8 (ar * 16777216) 0 → ∀ ls : Array Slot, lv_has ls 11 [(10, .int (nI j)), (9, .int (nI kk)), (7, .long rm), (5, .long tx), (0, .ref t0), (1, .long sp), (3, .long ar)] → W p l e (headSpec wT_levelFor (k2_rm 0 0)).room s m (#[.ref t0, .long sp, .long ar] : Array Value) below meth c s.heap [] 0 0 (MQ below (k2_QcV (.int (tt_lf ((sp * sd.toInt64) * sd.toInt64) (nI kk) 8 (ar * 16777216) 0))) (#[.ref t0, .long sp, .long ar] : Array Value) s 0 0 (fun _ => False)) (F0 m 33 ls []) := by
    intro tx htx n
    induction n with
    | zero => intro j rm h1 h2; exact absurd h2 (by omega)
    | succ n ih =>
      intro j rm hj hn he ls hl
      unfold tt_lf at he
      refine lv_iload hx hb dT_levelFor_33 (lv_at hl 0 rfl) ?_
      refine lv_iload hx hb dT_levelFor_35 (lv_at hl 1 rfl) ?_
      refine lv_icmp_ge (tgt := 65) hx hb dT_levelFor_37 (by decide) (fun c_1 => ?_) (fun c_1 => ?_)
      · refine lv_iload hx hb dT_levelFor_65 (lv_at hl 1 rfl) ?_
        rw [if_pos c_1] at he
        exact W.iret hx hb hr (fun t ht _ => ⟨tbI he, ht⟩) (fun q hq => nomatch hq) dT_levelFor_67
      · have hjk : j < kk := by
          rcases Nat.lt_or_ge j kk with q | q
          · exact q
          · exact absurd (nI_le q (by omega)) c_1
        refine lv_lload hx hb dT_levelFor_40 (lv_at hl 3 rfl) ?_
        refine lv_lload hx hb dT_levelFor_42 (lv_at hl 2 rfl) ?_
        refine W.lcmp hx hb dT_levelFor_44 ?_
        refine lv_if_gt (tgt := 51) hx hb dT_levelFor_45 (by decide) (fun c_2 => ?_) (fun c_2 => ?_)
        · refine lv_lload hx hb dT_levelFor_51 (lv_at hl 2 rfl) ?_
          refine lv_ldc2 (v := 4) hx hb hown (hB _ wd_118) dT_levelFor_53 ?_
          refine lv_lmul hx hb dT_levelFor_56 ?_
          refine lv_lstore (lv' := [(7, .long (rm * 4)), (10, .int (nI j)), (9, .int (nI kk)), (5, .long tx), (0, .ref t0), (1, .long sp), (3, .long ar)]) hx hb dT_levelFor_57 hl (by decide) rfl (fun ls hl => ?_)
          obtain ⟨i_3, ei_3⟩ : ∃ z9 : Int32, z9 = (nI j) + 1 := ⟨_, rfl⟩
          refine lv_iinc (v := i_3) (lv' := [(10, .int i_3), (7, .long (rm * 4)), (9, .int (nI kk)), (5, .long tx), (0, .ref t0), (1, .long sp), (3, .long ar)]) hx hb dT_levelFor_59 hl (k := 1) rfl (by rw [ei_3]; rfl) (by decide) rfl (fun ls hl => ?_)
          refine lv_goto (tgt := 33) hx hb dT_levelFor_62 (by decide) ?_
          rw [if_neg c_1, if_pos ((lg_cmp_gt _ _).mp c_2)] at he
          exact ih (j + 1) (rm * 4) (by omega) (by omega) (by rw [← nI_1]; exact he) ls (by have hl := lv_sub hl [0, 2, 1, 3, 4, 5, 6] rfl; rw [ei_3, nI_1] at hl; exact hl)
        · refine lv_iload hx hb dT_levelFor_48 (lv_at hl 0 rfl) ?_
          rw [if_neg c_1, if_neg (fun h9 => c_2 ((lg_cmp_gt _ _).mpr h9))] at he
          exact W.iret hx hb hr (fun t ht _ => ⟨tbI he, ht⟩) (fun q hq => nomatch hq) dT_levelFor_50
  refine lv_lload_n hx hb dT_levelFor_0 rfl (lv_at hl 1 rfl) ?_
  refine lv_aload_n hx hb dT_levelFor_1 rfl (lv_at hl 0 rfl) ?_
  refine va_get (D := D) (ci := 0) (v := .int sd) (C := RT) (T := FT) (N := 5) hx hb hB inT hown hK hP 0 rfl rfl 1 (by decide) (hB _ wd_28) (fun _ h9 => h9) rfl dT_levelFor_2 ?_
  refine lv_i2l hx hb dT_levelFor_5 rfl ?_
  refine lv_lmul hx hb dT_levelFor_6 ?_
  refine lv_aload_n hx hb dT_levelFor_7 rfl (lv_at hl 0 rfl) ?_
  refine va_get (D := D) (ci := 0) (v := .int sd) (C := RT) (T := FT) (N := 5) hx hb hB inT hown hK hP 0 rfl rfl 1 (by decide) (hB _ wd_28) (fun _ h9 => h9) rfl dT_levelFor_8 ?_
  refine lv_i2l hx hb dT_levelFor_11 rfl ?_
  refine lv_lmul hx hb dT_levelFor_12 ?_
  refine lv_topl (fun tx etx => ?_)
  refine lv_lstore (lv' := [(5, .long tx), (0, .ref t0), (1, .long sp), (3, .long ar)]) hx hb dT_levelFor_13 hl (by decide) rfl (fun ls hl => ?_)
  refine lv_lload_n hx hb dT_levelFor_15 rfl (lv_at hl 3 rfl) ?_
  refine lv_ldc2 (v := 16777216) hx hb hown (hB _ wd_238) dT_levelFor_16 ?_
  refine lv_lmul hx hb dT_levelFor_19 ?_
  refine lv_lstore (lv' := [(7, .long (ar * 16777216)), (5, .long tx), (0, .ref t0), (1, .long sp), (3, .long ar)]) hx hb dT_levelFor_20 hl (by decide) rfl (fun ls hl => ?_)
  refine lv_aload_n hx hb dT_levelFor_22 rfl (lv_at hl 2 rfl) ?_
  refine va_get (D := D) (ci := 0) (v := .int (nI (kk + 1))) (C := RT) (T := FT) (N := 5) hx hb hB inT hown hK hP 0 rfl rfl 4 (by decide) (hB _ wd_34) (fun _ h9 => h9) rfl dT_levelFor_23 ?_
  refine lv_iconst (v := 1) hx hb dT_levelFor_26 (by decide) ?_
  refine lv_isub hx hb dT_levelFor_27 ?_
  refine W.eq (g2 := F0 m 28 ls [.int (nI kk)]) (by rw [show (nI (kk + 1) - 1 : Int32) = nI kk from nI_pred kk]) ?_
  refine lv_istore (lv' := [(9, .int (nI kk)), (7, .long (ar * 16777216)), (5, .long tx), (0, .ref t0), (1, .long sp), (3, .long ar)]) hx hb dT_levelFor_28 hl (by decide) rfl (fun ls hl => ?_)
  refine lv_iconst (v := 0) hx hb dT_levelFor_30 (by decide) ?_
  refine lv_istore (lv' := [(10, .int 0), (9, .int (nI kk)), (7, .long (ar * 16777216)), (5, .long tx), (0, .ref t0), (1, .long sp), (3, .long ar)]) hx hb dT_levelFor_31 hl (by decide) rfl (fun ls hl => ?_)
  exact loop tx etx 8 0 _ (Nat.zero_le _) (by omega) (by rw [etx]; rfl) ls (lv_sub hl [0, 1, 2, 3, 4, 5, 6] rfl)

/-! LayeredPage: decode -/
theorem RD_le {l : List Nat} {K v : Nat} (h : RD l K v) : v ≤ 6 := by
  rcases h with ⟨_, _, e⟩ | ⟨_, _, ⟨_, e⟩ | ⟨_, h, _⟩⟩
  · omega
  · omega
  · rcases h with ⟨_, h⟩ | ⟨_, _, h⟩ | ⟨_, _, _, ⟨_, h⟩ | ⟨_, h⟩⟩ | ⟨_, _, _, ⟨_, h⟩ | ⟨_, h⟩⟩ | ⟨_, _, _, ⟨_, h⟩ | ⟨_, h⟩⟩ <;> omega
set_option maxRecDepth 100000 in
set_option maxHeartbeats 4000000 in
theorem c_decode (l : Launch) (g : Gl) (x ob dw dr : Nat) (A B S : Nat → Nat) (hp : Bool) (a z o r : Nat) (l0 : List Nat) (hl : bytesOK l0) (r0 : Nat) (i1 i2 i3 i4 wd : Int32) (f hq : Nat → Int32) (nS nP : Nat) (b w h ps sp : Nat → Nat) (bs ce0 co0 cd0 li0 : Nat → Int32) (cm0 : Bool) (ce1 co1 cd1 li1 : Nat → Int32) (cm1 : Bool) (H : ∀ k, k < 8 → b k < 2 ^ 64 ∧ w k ≤ 8 ∧ h k ≤ 8) : Ct l g y_LP_decode b_LP_decode 3 (some .int) (rmD 6) [.ref x] (lpC x ob dw dr A B S hp :: (wDr g dr a z o ob r r0 i1 i2 i3 i4 wd f hq l0 ++ wPg g S nS nP (nF ps) (nF sp) ce0 co0 cd0 li0 cm0 ce1 co1 cd1 li1 cm1 (fun k => shV (b k) (w k) (h k) (bs k)))) (fun u q => ∃ v K : Nat, u = some (.int (nI v)) ∧ RD l0 K v ∧ ∃ (r0 : Nat) (i1 i2 i3 i4 wd : Int32) (f hq : Nat → Int32) (nS nP : Nat) (b w h ps sp : Nat → Nat) (bs ce0 co0 cd0 li0 : Nat → Int32) (cm0 : Bool) (ce1 co1 cd1 li1 : Nat → Int32) (cm1 : Bool), pgOK nS nP b w h ps sp ∧ ((v = 0 ∧ pgIs l0 K nS nP b w h ps sp ce0 co0 cm0 ce1 co1 cm1 ∧ q = lpC x ob dw dr A S B true :: (wDr g dr a z o ob r r0 i1 i2 i3 i4 wd f hq l0 ++ wPg g S nS nP (nF ps) (nF sp) ce0 co0 cd0 li0 cm0 ce1 co1 cd1 li1 cm1 (fun k => shV (b k) (w k) (h k) (bs k)))) ∨ (¬ v = 0 ∧ q = lpC x ob dw dr A B S hp :: (wDr g dr a z o ob r r0 i1 i2 i3 i4 wd f hq l0 ++ wPg g S nS nP (nF ps) (nF sp) ce0 co0 cd0 li0 cm0 ce1 co1 cd1 li1 cm1 (fun k => shV (b k) (w k) (h k) (bs k)))))) := by
  refine ct_of [some (.ref x), none, none] (by decide) (Nat.le_of_ble_eq_true rfl) rfl ?_
  intro X C E
  refine sw_aload_n (pc := 0) C d_LP_decode_0 rfl rfl ?_
  refine sw_get (pc := 1) C inLP 0 rfl rfl 2 (by decide) t_226 rfl rfl d_LP_decode_1 ?_
  refine sw_aload_n (pc := 4) C d_LP_decode_4 rfl rfl ?_
  refine sw_get (pc := 5) C inLP 0 rfl rfl 0 (by decide) t_224 rfl rfl d_LP_decode_5 ?_
  refine sw_aload_n (pc := 8) C d_LP_decode_8 rfl rfl ?_
  refine sw_get (pc := 9) C inLP 0 rfl rfl 6 (by decide) t_230 rfl rfl d_LP_decode_9 ?_
  refine sw_ws (ws' := [lpC x ob dw dr A B S hp] ++ (wDr g dr a z o ob r r0 i1 i2 i3 i4 wd f hq l0 ++ wPg g S nS nP (nF ps) (nF sp) ce0 co0 cd0 li0 cm0 ce1 co1 cd1 li1 cm1 (fun k => shV (b k) (w k) (h k) (bs k)))) rfl ?_
  refine sw_callVE (pc := 12) C (c_read l g dr a z o ob r l0 hl S r0 i1 i2 i3 i4 wd f hq nS nP b w h ps sp bs ce0 co0 cd0 li0 cm0 ce1 co1 cd1 li1 cm1 H) sv_Dr_read t_473 rfl rfl rfl rfl rfl (Nat.le_of_ble_eq_true rfl) (Nat.le_of_ble_eq_true rfl) (Nat.le_of_ble_eq_true rfl) (Nat.le_of_ble_eq_true rfl) (Nat.le_of_ble_eq_true rfl) d_LP_decode_12 (fun v w1 hpp => ?_)
  obtain ⟨v, K, rfl, hR, r1, j1, j2, j3, j4, d1, f1, h1, nS', nP', b', w', h', ps', sp', bs', ce0', co0', cd0', li0', cm0', ce1', co1', cd1', li1', cm1', O, hI, rfl⟩ := hpp
  refine ⟨rfl, ?_⟩
  refine sw_ws (ws' := lpC x ob dw dr A B S hp :: (wDr g dr a z o ob r r1 j1 j2 j3 j4 d1 f1 h1 l0 ++ wPg g S nS' nP' (nF ps') (nF sp') ce0' co0' cd0' li0' cm0' ce1' co1' cd1' li1' cm1' (fun k => shV (b' k) (w' k) (h' k) (bs' k)))) rfl ?_
  have hv := RD_le hR
  refine sw_istore_n (pc := 15) C d_LP_decode_15 rfl (by decide) rfl ?_
  refine sw_iload_n (pc := 16) C d_LP_decode_16 rfl rfl ?_
  refine sw_if_neN (pc := 17) C 43 (by omega) d_LP_decode_17 (by decide) (fun g1 => ?_) (fun g1 => ?_)
  · skip
    refine sw_iload_n (pc := 43) C d_LP_decode_43 rfl rfl ?_
    exact sw_iret (pc := 44) C E rfl (Nat.le_of_ble_eq_true rfl) (Nat.le_of_ble_eq_true rfl) d_LP_decode_44 ⟨v, K, rfl, hR, r1, j1, j2, j3, j4, d1, f1, h1, nS', nP', b', w', h', ps', sp', bs', ce0', co0', cd0', li0', cm0', ce1', co1', cd1', li1', cm1', O, Or.inr ⟨by omega, rfl⟩⟩
  have hv0 : v = 0 := by omega
  refine sw_aload_n (pc := 20) C d_LP_decode_20 rfl rfl ?_
  refine sw_get (pc := 21) C inLP 0 rfl rfl 5 (by decide) t_229 rfl rfl d_LP_decode_21 ?_
  refine sw_astore_n (pc := 24) C d_LP_decode_24 rfl (by decide) rfl ?_
  refine sw_aload_n (pc := 25) C d_LP_decode_25 rfl rfl ?_
  refine sw_aload_n (pc := 26) C d_LP_decode_26 rfl rfl ?_
  refine sw_get (pc := 27) C inLP 0 rfl rfl 6 (by decide) t_230 rfl rfl d_LP_decode_27 ?_
  refine sw_put (pc := 30) C inLP 0 rfl rfl 5 (by decide) tyLP okLP nmLP t_229 rfl rfl (ty := (.object "LayeredPage$Page")) (by decide +kernel) rfl rfl (Nat.le_of_ble_eq_true rfl) d_LP_decode_30 ?_
  refine sw_aload_n (pc := 33) C d_LP_decode_33 rfl rfl ?_
  refine sw_aload_n (pc := 34) C d_LP_decode_34 rfl rfl ?_
  refine sw_put (pc := 35) C inLP 0 rfl rfl 6 (by decide) tyLP okLP nmLP t_230 rfl rfl (ty := (.object "LayeredPage$Page")) (by decide +kernel) rfl rfl (Nat.le_of_ble_eq_true rfl) d_LP_decode_35 ?_
  refine sw_aload_n (pc := 38) C d_LP_decode_38 rfl rfl ?_
  refine sw_iconst (pc := 39) C (nI 1) d_LP_decode_39 (by decide) ?_
  refine sw_put (pc := 40) C inLP 0 rfl rfl 4 (by decide) tyLP okLP nmLP t_228 rfl rfl (ty := .boolean) (by decide +kernel) rfl rfl (Nat.le_of_ble_eq_true rfl) d_LP_decode_40 ?_
  refine sw_iload_n (pc := 43) C d_LP_decode_43 rfl rfl ?_
  exact sw_iret (pc := 44) C E rfl (Nat.le_of_ble_eq_true rfl) (Nat.le_of_ble_eq_true rfl) d_LP_decode_44 ⟨v, K, rfl, hR, r1, j1, j2, j3, j4, d1, f1, h1, nS', nP', b', w', h', ps', sp', bs', ce0', co0', cd0', li0', cm0', ce1', co1', cd1', li1', cm1', O, Or.inl ⟨hv0, hI hv0, rfl⟩⟩

set_option maxHeartbeats 8000000 in
set_option maxRecDepth 100000 in
/-- the law's loop -/
theorem lw_loop (p : Program) (l : Launch) (e : Env) (s : State) (m : MethodId) (below : List Frame) (meth : Method) (c : Code) (D : va_G) (A : Nat → Prop) (cZ cI cF cJ b L : Nat) (xs : Nat → Int32) (a : Nat) (k : Nat → Nat) (u u1 o o0 o1 q q0 q1 q2 q3 q4 q5 q6 q7 q8 q9 q10 q11 q12 q13 q14 z9 z8 : Nat) (hl9 : l.stackTraces = false) (C : lwX p s m c D A cZ cI cF cJ b L xs) (hr : meth.sig.returnType = ret) (hlocks : meth.locks = false) (hA2 : ∀ q, A q → s.heap.size ≤ q) : ∀ (n i : Nat), i ≤ 512 → 512 < i + n → ∀ (tH : Nat → Bool) (vA : Nat → UInt64) (eC : Nat → Nat) (tO : Nat → Nat) (lE : Nat → UInt64) (aW : Nat → Bool) (mS : Nat → Nat) (mE : Nat → UInt64) (sS : Nat → Nat) (aG : Nat → UInt64) (st : Nat) (sE : Nat → UInt64) (iS : Nat → Bool) (gN : Nat → Bool) (sv : Bool) (pg : Nat) (nb : Nat) (cb : Bool) (nV : Nat → UInt64) (nA : Nat → Bool) (ox : UInt64) (of : Nat) (fl : Bool) (cd : Nat) (g : Nat → Nat) (w : Nat → Nat) (th3 : Nat → Bool) (va3 : Nat → UInt64) (ec3 : Nat → Nat) (tg3 : Nat → Nat) (le3 : Nat → UInt64) (aw3 : Nat → Bool) (mc3 : Nat → Nat) (ml3 : Nat → UInt64) (ss3 : Nat) (ag3 : UInt64) (pr : Nat) (flc : Bool) (ofc : Bool) (oxc : UInt64) (fo : Nat → Int64) (fd : Nat → UInt64), (st < 3) → (pg < 4) → (nb < 2 ^ 31) → (sS 0 ≤ 10 * i) → (sS 1 ≤ 10 * i) → (wf pg sv (tH, vA, eC, tO, lE, aW, mS, mE, sS, aG, st, sE, iS, gN)) → ∀ (H : Heap) (locs : List Loc) (ls : Array Slot), va_P D CL [cO a 3 [.int (nI st), .int (bI sv), .ref (g 0), .ref (w 0), .ref (k 0), .ref u], cO (g 0) 0 [.ref (g 1), .ref (g 2), .ref (g 3), .ref (g 4), .ref (g 5), .ref (g 6), .ref (g 7), .ref (g 8), .int (nI (sS 0)), .double (aG 0)], cB (g 1) cZ 12 tH, cD (g 2) cF 12 vA, cN (g 3) cI 12 (ecN tH eC), cN (g 4) cI 144 tO, cD (g 5) cF 144 lE, cB (g 6) cZ 12 aW, cN (g 7) cI 12 mS, cD (g 8) cF 144 mE, cO (w 0) 0 [.ref (w 1), .ref (w 2), .ref (w 3), .ref (w 4), .ref (w 5), .ref (w 6), .ref (w 7), .ref (w 8), .int (nI ss3), .double ag3], cB (w 1) cZ 12 th3, cD (w 2) cF 12 va3, cN (w 3) cI 12 ec3, cN (w 4) cI 144 tg3, cD (w 5) cF 144 le3, cB (w 6) cZ 12 aw3, cN (w 7) cI 12 mc3, cD (w 8) cF 144 ml3, cO (k 0) 0 [.ref (k 1), .ref (k 2), .ref (k 3), .ref (k 4), .ref (k 5), .ref (k 6), .ref (k 7), .ref (k 8), .int (nI (sS 1)), .double (aG 1)], cB (k 1) cZ 12 (fun j => tH (12 + j)), cD (k 2) cF 12 (fun j => vA (12 + j)), cN (k 3) cI 12 (ecN (fun j => tH (12 + j)) (fun j => eC (12 + j))), cN (k 4) cI 144 (fun j => tO (144 + j)), cD (k 5) cF 144 (fun j => lE (144 + j)), cB (k 6) cZ 12 (fun j => aW (12 + j)), cN (k 7) cI 12 (fun j => mS (12 + j)), cD (k 8) cF 144 (fun j => mE (144 + j)), cO u 2 [.ref o, .ref u1, .int (nI pg), .int (nI nb), .int (bI cb), .int (nI pr), .int (bI flc), .int (bI ofc), .double oxc], cB u1 cZ 12 gN, cO o 1 [.ref o0, .ref o1], cB o0 cZ 144 iS, cD o1 cF 144 sE, cO q 4 [.ref q0, .ref q1, .ref q2, .ref q3, .ref q4, .ref q5, .ref q6, .ref q7, .ref q8, .ref q9, .int (bI sv), .int (nI st), .int (nI pg), .int (nI nb), .int (bI cb), .ref q10, .ref q11, .ref q12, .ref q13, .ref q14, .double ox, .int (nI of), .int (bI fl), .int (nI cd)], cB q0 cZ 24 tH, cD q1 cF 24 vA, cN q2 cI 24 eC, cN q3 cI 288 tO, cD q4 cF 288 lE, cB q5 cZ 24 aW, cN q6 cI 24 mS, cD q7 cF 288 mE, cN q8 cI 2 sS, cD q9 cF 2 aG, cD q10 cF 144 sE, cB q11 cZ 144 iS, cD q12 cF 12 nV, cB q13 cZ 12 nA, cB q14 cZ 12 gN, cL z9 cJ 1 fo, cD z8 cF 1 fd] H → va_D A [cO a 3 [.int (nI st), .int (bI sv), .ref (g 0), .ref (w 0), .ref (k 0), .ref u], cO (g 0) 0 [.ref (g 1), .ref (g 2), .ref (g 3), .ref (g 4), .ref (g 5), .ref (g 6), .ref (g 7), .ref (g 8), .int (nI (sS 0)), .double (aG 0)], cB (g 1) cZ 12 tH, cD (g 2) cF 12 vA, cN (g 3) cI 12 (ecN tH eC), cN (g 4) cI 144 tO, cD (g 5) cF 144 lE, cB (g 6) cZ 12 aW, cN (g 7) cI 12 mS, cD (g 8) cF 144 mE, cO (w 0) 0 [.ref (w 1), .ref (w 2), .ref (w 3), .ref (w 4), .ref (w 5), .ref (w 6), .ref (w 7), .ref (w 8), .int (nI ss3), .double ag3], cB (w 1) cZ 12 th3, cD (w 2) cF 12 va3, cN (w 3) cI 12 ec3, cN (w 4) cI 144 tg3, cD (w 5) cF 144 le3, cB (w 6) cZ 12 aw3, cN (w 7) cI 12 mc3, cD (w 8) cF 144 ml3, cO (k 0) 0 [.ref (k 1), .ref (k 2), .ref (k 3), .ref (k 4), .ref (k 5), .ref (k 6), .ref (k 7), .ref (k 8), .int (nI (sS 1)), .double (aG 1)], cB (k 1) cZ 12 (fun j => tH (12 + j)), cD (k 2) cF 12 (fun j => vA (12 + j)), cN (k 3) cI 12 (ecN (fun j => tH (12 + j)) (fun j => eC (12 + j))), cN (k 4) cI 144 (fun j => tO (144 + j)), cD (k 5) cF 144 (fun j => lE (144 + j)), cB (k 6) cZ 12 (fun j => aW (12 + j)), cN (k 7) cI 12 (fun j => mS (12 + j)), cD (k 8) cF 144 (fun j => mE (144 + j)), cO u 2 [.ref o, .ref u1, .int (nI pg), .int (nI nb), .int (bI cb), .int (nI pr), .int (bI flc), .int (bI ofc), .double oxc], cB u1 cZ 12 gN, cO o 1 [.ref o0, .ref o1], cB o0 cZ 144 iS, cD o1 cF 144 sE, cO q 4 [.ref q0, .ref q1, .ref q2, .ref q3, .ref q4, .ref q5, .ref q6, .ref q7, .ref q8, .ref q9, .int (bI sv), .int (nI st), .int (nI pg), .int (nI nb), .int (bI cb), .ref q10, .ref q11, .ref q12, .ref q13, .ref q14, .double ox, .int (nI of), .int (bI fl), .int (nI cd)], cB q0 cZ 24 tH, cD q1 cF 24 vA, cN q2 cI 24 eC, cN q3 cI 288 tO, cD q4 cF 288 lE, cB q5 cZ 24 aW, cN q6 cI 24 mS, cD q7 cF 288 mE, cN q8 cI 2 sS, cD q9 cF 2 aG, cD q10 cF 144 sE, cB q11 cZ 144 iS, cD q12 cF 12 nV, cB q13 cZ 12 nA, cB q14 cZ 12 gN, cL z9 cJ 1 fo, cD z8 cF 1 fd] → va_S A s.heap H locs → lv_has ls 10 [(0, .ref b), (1, .ref a), (2, .ref q), (3, .ref z9), (4, .ref z8), (5, .int (nI (4 * i)))] → W p l e room_1 s m #[Value.ref b] below meth c H locs (51 + i) (3161 + 6 * i) (lw_Z below #[Value.ref b] s) (F0 m 28 ls []) := by
  intro n
  induction n with
  | zero => intro i h1 h2; exact absurd h2 (by omega)
  | succ n ih =>
    intro i hi5 hn5 tH vA eC tO lE aW mS mE sS aG st sE iS gN sv pg nb cb nV nA ox of fl cd g w th3 va3 ec3 tg3 le3 aw3 mc3 ml3 ss3 ag3 pr flc ofc oxc fo fd hst hp hb1 hss hs1 hwf H locs ls hP hD hS hl
    have C0 := C
    obtain ⟨hx, hb, hml, hown, hts, hA, hK, hX, hNC, hXs, hbl, hbA, hL⟩ := C
    have hgo : 4 * i + 4 ≤ L → lwGo p l e s m below meth c D A cZ cI cF cJ b L xs a k u u1 o o0 o1 q q0 q1 q2 q3 q4 q5 q6 q7 q8 q9 q10 q11 q12 q13 q14 z9 z8 i := by
      intro hi4 tH vA eC tO lE aW mS mE sS aG st sE iS gN sv pg nb cb nV nA ox of fl cd g w th3 va3 ec3 tg3 le3 aw3 mc3 ml3 ss3 ag3 pr flc ofc oxc fo fd hst hp hb1 hss hs1 hwf H locs ls hP hD hS hl
      refine nw_iinc (x := 4 * i) (d := 4) (lv' := [(5, .int (nI (4 * i + 4))), (0, .ref b), (1, .ref a), (2, .ref q), (3, .ref z9), (4, .ref z8)]) hx hb d_L_law_1011 hl (k := 5) rfl (by decide) rfl (fun ls hl => ?_)
      refine lv_goto (tgt := 28) hx hb d_L_law_1014 (by decide) ?_
      exact ih (i + 1) (by omega) (by omega) tH vA eC tO lE aW mS mE sS aG st sE iS gN sv pg nb cb nV nA ox of fl cd g w th3 va3 ec3 tg3 le3 aw3 mc3 ml3 ss3 ag3 pr flc ofc oxc fo fd hst hp hb1 hss hs1 hwf _ _ _ hP hD hS (nEqL (l := [(0, .ref b), (1, .ref a), (2, .ref q), (3, .ref z9), (4, .ref z8), (5, .int (nI (4 * i + 4)))]) rfl (lv_sub (l' := [(0, .ref b), (1, .ref a), (2, .ref q), (3, .ref z9), (4, .ref z8), (5, .int (nI (4 * i + 4)))]) hl [1, 2, 3, 4, 5, 0] rfl))
    refine lv_iload hx hb d_L_law_28 (lv_at hl 5 rfl) ?_
    refine lv_aload_n hx hb d_L_law_30 rfl (lv_at hl 0 rfl) ?_
    refine va_slen hx hb hXs hbl hbA hS d_L_law_31 ?_
    refine lv_iconst (v := nI 4) hx hb d_L_law_32 (by decide +kernel) ?_
    refine lv_isub hx hb d_L_law_33 ?_
    refine lv_icmp_gt (tgt := 1017) hx hb d_L_law_34 (by decide) (fun h_34 => ?_) (fun h_34 => ?_)
    · refine lv_iconst (v := 1) hx hb d_L_law_1017 (by decide) ?_
      exact W.widen (k := 1085) (n := 11413) (by omega) (by omega) (va_forget (fun q h => hA2 _ (hS.2.2 q h)) (lw_ret hx hb hr hlocks d_L_law_1018))
    · have hi4 : 4 * i + 4 ≤ L := Nat.le_of_not_lt (fun q9 => h_34 ((law_gt hL hi5).mpr q9))
      have kk := hgo hi4
      refine lv_aload_n hx hb d_L_law_37 rfl (lv_at hl 0 rfl) ?_
      refine lv_iload hx hb d_L_law_38 (lv_at hl 5 rfl) ?_
      refine nw_sld hx hb hXs hbl hbA hS (i := 4 * i) (by omega) (by omega) d_L_law_40 ?_
      refine lv_bipush (v := nI 15) hx hb d_L_law_41 (by decide +kernel) ?_
      refine lv_iand hx hb d_L_law_43 ?_
      obtain ⟨op, hop, eop⟩ := and15 (xs (4 * i))
      rw [eop]
      by_cases h_0 : op = 0
      · refine nw_tab (k := 0) (off := 72) (tgt := 116) hx hb d_L_law_44 h_0 (by decide +kernel) (by decide) ?_
        exact op_0 p l e s m below meth c D A cZ cI cF cJ b L xs a k u u1 o o0 o1 q q0 q1 q2 q3 q4 q5 q6 q7 q8 q9 q10 q11 q12 q13 q14 z9 z8 hl9 C0 i hi4 tH vA eC tO lE aW mS mE sS aG st sE iS gN sv pg nb cb nV nA ox of fl cd g w th3 va3 ec3 tg3 le3 aw3 mc3 ml3 ss3 ag3 pr flc ofc oxc fo fd hst hp hb1 hss hs1 hwf H locs ls hP hD hS hl kk
      by_cases h_1 : op = 1
      · refine nw_tab (k := 1) (off := 150) (tgt := 194) hx hb d_L_law_44 h_1 (by decide +kernel) (by decide) ?_
        exact op_1 p l e s m below meth c D A cZ cI cF cJ b L xs a k u u1 o o0 o1 q q0 q1 q2 q3 q4 q5 q6 q7 q8 q9 q10 q11 q12 q13 q14 z9 z8 hl9 C0 i hi4 tH vA eC tO lE aW mS mE sS aG st sE iS gN sv pg nb cb nV nA ox of fl cd g w th3 va3 ec3 tg3 le3 aw3 mc3 ml3 ss3 ag3 pr flc ofc oxc fo fd hst hp hb1 hss hs1 hwf H locs ls hP hD hS hl kk
      by_cases h_2 : op = 2
      · refine nw_tab (k := 2) (off := 240) (tgt := 284) hx hb d_L_law_44 h_2 (by decide +kernel) (by decide) ?_
        exact op_2 p l e s m below meth c D A cZ cI cF cJ b L xs a k u u1 o o0 o1 q q0 q1 q2 q3 q4 q5 q6 q7 q8 q9 q10 q11 q12 q13 q14 z9 z8 hl9 C0 i hi4 tH vA eC tO lE aW mS mE sS aG st sE iS gN sv pg nb cb nV nA ox of fl cd g w th3 va3 ec3 tg3 le3 aw3 mc3 ml3 ss3 ag3 pr flc ofc oxc fo fd hst hp hb1 hss hs1 hwf H locs ls hP hD hS hl kk
      by_cases h_3 : op = 3
      · refine nw_tab (k := 3) (off := 296) (tgt := 340) hx hb d_L_law_44 h_3 (by decide +kernel) (by decide) ?_
        exact op_3 p l e s m below meth c D A cZ cI cF cJ b L xs a k u u1 o o0 o1 q q0 q1 q2 q3 q4 q5 q6 q7 q8 q9 q10 q11 q12 q13 q14 z9 z8 hl9 C0 i hi4 tH vA eC tO lE aW mS mE sS aG st sE iS gN sv pg nb cb nV nA ox of fl cd g w th3 va3 ec3 tg3 le3 aw3 mc3 ml3 ss3 ag3 pr flc ofc oxc fo fd hst hp hb1 hss hs1 hwf H locs ls hP hD hS hl kk
      by_cases h_4 : op = 4
      · refine nw_tab (k := 4) (off := 392) (tgt := 436) hx hb d_L_law_44 h_4 (by decide +kernel) (by decide) ?_
        exact op_4 p l e s m below meth c D A cZ cI cF cJ b L xs a k u u1 o o0 o1 q q0 q1 q2 q3 q4 q5 q6 q7 q8 q9 q10 q11 q12 q13 q14 z9 z8 hl9 C0 i hi4 tH vA eC tO lE aW mS mE sS aG st sE iS gN sv pg nb cb nV nA ox of fl cd g w th3 va3 ec3 tg3 le3 aw3 mc3 ml3 ss3 ag3 pr flc ofc oxc fo fd hst hp hb1 hss hs1 hwf H locs ls hP hD hS hl kk
      by_cases h_5 : op = 5
      · refine nw_tab (k := 5) (off := 448) (tgt := 492) hx hb d_L_law_44 h_5 (by decide +kernel) (by decide) ?_
        exact op_5 p l e s m below meth c D A cZ cI cF cJ b L xs a k u u1 o o0 o1 q q0 q1 q2 q3 q4 q5 q6 q7 q8 q9 q10 q11 q12 q13 q14 z9 z8 hl9 C0 i hi4 tH vA eC tO lE aW mS mE sS aG st sE iS gN sv pg nb cb nV nA ox of fl cd g w th3 va3 ec3 tg3 le3 aw3 mc3 ml3 ss3 ag3 pr flc ofc oxc fo fd hst hp hb1 hss hs1 hwf H locs ls hP hD hS hl kk
      by_cases h_6 : op = 6
      · refine nw_tab (k := 6) (off := 492) (tgt := 536) hx hb d_L_law_44 h_6 (by decide +kernel) (by decide) ?_
        exact op_6 p l e s m below meth c D A cZ cI cF cJ b L xs a k u u1 o o0 o1 q q0 q1 q2 q3 q4 q5 q6 q7 q8 q9 q10 q11 q12 q13 q14 z9 z8 hl9 C0 i hi4 tH vA eC tO lE aW mS mE sS aG st sE iS gN sv pg nb cb nV nA ox of fl cd g w th3 va3 ec3 tg3 le3 aw3 mc3 ml3 ss3 ag3 pr flc ofc oxc fo fd hst hp hb1 hss hs1 hwf H locs ls hP hD hS hl kk
      by_cases h_7 : op = 7
      · refine nw_tab (k := 7) (off := 548) (tgt := 592) hx hb d_L_law_44 h_7 (by decide +kernel) (by decide) ?_
        exact op_7 p l e s m below meth c D A cZ cI cF cJ b L xs a k u u1 o o0 o1 q q0 q1 q2 q3 q4 q5 q6 q7 q8 q9 q10 q11 q12 q13 q14 z9 z8 hl9 C0 i hi4 tH vA eC tO lE aW mS mE sS aG st sE iS gN sv pg nb cb nV nA ox of fl cd g w th3 va3 ec3 tg3 le3 aw3 mc3 ml3 ss3 ag3 pr flc ofc oxc fo fd hst hp hb1 hss hs1 hwf H locs ls hP hD hS hl kk
      by_cases h_8 : op = 8
      · refine nw_tab (k := 8) (off := 592) (tgt := 636) hx hb d_L_law_44 h_8 (by decide +kernel) (by decide) ?_
        exact op_8 p l e s m below meth c D A cZ cI cF cJ b L xs a k u u1 o o0 o1 q q0 q1 q2 q3 q4 q5 q6 q7 q8 q9 q10 q11 q12 q13 q14 z9 z8 hl9 C0 i hi4 tH vA eC tO lE aW mS mE sS aG st sE iS gN sv pg nb cb nV nA ox of fl cd g w th3 va3 ec3 tg3 le3 aw3 mc3 ml3 ss3 ag3 pr flc ofc oxc fo fd hst hp hb1 hss hs1 hwf H locs ls hP hD hS hl kk
      by_cases h_9 : op = 9
      · refine nw_tab (k := 9) (off := 636) (tgt := 680) hx hb d_L_law_44 h_9 (by decide +kernel) (by decide) ?_
        exact op_9 p l e s m below meth c D A cZ cI cF cJ b L xs a k u u1 o o0 o1 q q0 q1 q2 q3 q4 q5 q6 q7 q8 q9 q10 q11 q12 q13 q14 z9 z8 hl9 C0 i hi4 tH vA eC tO lE aW mS mE sS aG st sE iS gN sv pg nb cb nV nA ox of fl cd g w th3 va3 ec3 tg3 le3 aw3 mc3 ml3 ss3 ag3 pr flc ofc oxc fo fd hst hp hb1 hss hs1 hwf H locs ls hP hD hS hl kk
      by_cases h_10 : op = 10
      · refine nw_tab (k := 10) (off := 713) (tgt := 757) hx hb d_L_law_44 h_10 (by decide +kernel) (by decide) ?_
        exact op_10 p l e s m below meth c D A cZ cI cF cJ b L xs a k u u1 o o0 o1 q q0 q1 q2 q3 q4 q5 q6 q7 q8 q9 q10 q11 q12 q13 q14 z9 z8 hl9 C0 i hi4 tH vA eC tO lE aW mS mE sS aG st sE iS gN sv pg nb cb nV nA ox of fl cd g w th3 va3 ec3 tg3 le3 aw3 mc3 ml3 ss3 ag3 pr flc ofc oxc fo fd hst hp hb1 hss hs1 hwf H locs ls hP hD hS hl kk
      by_cases h_11 : op = 11
      · refine nw_tab (k := 11) (off := 802) (tgt := 846) hx hb d_L_law_44 h_11 (by decide +kernel) (by decide) ?_
        exact op_11 p l e s m below meth c D A cZ cI cF cJ b L xs a k u u1 o o0 o1 q q0 q1 q2 q3 q4 q5 q6 q7 q8 q9 q10 q11 q12 q13 q14 z9 z8 hl9 C0 i hi4 tH vA eC tO lE aW mS mE sS aG st sE iS gN sv pg nb cb nV nA ox of fl cd g w th3 va3 ec3 tg3 le3 aw3 mc3 ml3 ss3 ag3 pr flc ofc oxc fo fd hst hp hb1 hss hs1 hwf H locs ls hP hD hS hl kk
      by_cases h_12 : op = 12
      · refine nw_tab (k := 12) (off := 843) (tgt := 887) hx hb d_L_law_44 h_12 (by decide +kernel) (by decide) ?_
        exact op_12 p l e s m below meth c D A cZ cI cF cJ b L xs a k u u1 o o0 o1 q q0 q1 q2 q3 q4 q5 q6 q7 q8 q9 q10 q11 q12 q13 q14 z9 z8 hl9 C0 i hi4 tH vA eC tO lE aW mS mE sS aG st sE iS gN sv pg nb cb nV nA ox of fl cd g w th3 va3 ec3 tg3 le3 aw3 mc3 ml3 ss3 ag3 pr flc ofc oxc fo fd hst hp hb1 hss hs1 hwf H locs ls hP hD hS hl kk
      by_cases h_13 : op = 13
      · refine nw_tab (k := 13) (off := 911) (tgt := 955) hx hb d_L_law_44 h_13 (by decide +kernel) (by decide) ?_
        exact op_13 p l e s m below meth c D A cZ cI cF cJ b L xs a k u u1 o o0 o1 q q0 q1 q2 q3 q4 q5 q6 q7 q8 q9 q10 q11 q12 q13 q14 z9 z8 hl9 C0 i hi4 tH vA eC tO lE aW mS mE sS aG st sE iS gN sv pg nb cb nV nA ox of fl cd g w th3 va3 ec3 tg3 le3 aw3 mc3 ml3 ss3 ag3 pr flc ofc oxc fo fd hst hp hb1 hss hs1 hwf H locs ls hP hD hS hl kk
      refine nw_tabO (tgt := 1011) hx hb (by omega) d_L_law_44 (by omega) (by decide) ?_
      exact W.widen (by omega) (by omega) (kk tH vA eC tO lE aW mS mE sS aG st sE iS gN sv pg nb cb nV nA ox of fl cd g w th3 va3 ec3 tg3 le3 aw3 mc3 ml3 ss3 ag3 pr flc ofc oxc fo fd hst hp hb1 (by omega) (by omega) hwf _ _ _ hP hD hS hl)

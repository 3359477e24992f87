set_option maxHeartbeats 4000000 in
set_option maxRecDepth 100000 in
theorem law_loop {K : KA × KB} {l : Launch} {D : va_G} {cI cZ cS : ClassId} {x y b N : Nat} {xs : Nat → Int32} (ok : OKX K l D (TY cI cZ cS) cL_law RL 4 9 375 0 0) (hX : KXs K b N xs) (hN : N ≤ 2560) (hend : ∀ (ws : va_W) (lv : List (Nat × Value)), XX K ws lv 927 [.int (nI 1)]) : ∀ (f k : Nat), N < k * 5 + f → k * 5 ≤ N → LI K cI cZ cS x y b k
  | 0, k, h1, h2 => absurd h1 (by omega)
  | f + 1, k, h1, h2 => by
    have ih : k * 5 + 5 ≤ N → LI K cI cZ cS x y b (k + 1) := fun h => law_loop ok hX hN hend f (k + 1) (by omega) (by omega)
    intro T Ws ll L li ye br As sk s0 s1 sd wc wm hS hc hm
    refine x_iload_n ok 0 dL_law_18 rfl rfl ?_
    refine x_aload_n ok 3 dL_law_19 rfl rfl ?_
    refine x_slen ok hX dL_law_20 ?_
    refine x_iconst ok (nI 5) dL_law_21 (by decide) ?_
    refine x_isub ok (nI N - nI 5) dL_law_22 rfl ?_
    refine x_icmp_gt ok 926 dL_law_23 (by decide) (fun c => ?_) (fun c => ?_)
    · refine x_iconst ok (nI 1) dL_law_926 (by decide) ?_
      exact hend _ _
    · have h5 : k * 5 + 5 ≤ N := by
        rw [Int32.lt_iff_toInt_lt, pk_sub_toInt (by omega) (by omega), nI_toInt (by omega)] at c
        omega
      have ih := ih h5
      refine x_aload_n ok 3 dL_law_26 rfl rfl ?_
      refine x_iload_n ok 0 dL_law_27 rfl rfl ?_
      refine x_sld ok hX hN (k * 5) (by omega) dL_law_28 ?_
      refine x_bipush ok (nI 31) dL_law_29 (by decide) ?_
      refine x_iand ok (xs (k * 5) &&& nI 31) dL_law_31 rfl ?_
      refine x_table ok (tgts := [156, 179, 192, 205, 218, 241, 274, 307, 320, 373, 396, 409, 468, 491, 514, 537, 570, 593, 606, 629, 652, 695, 728, 787, 841, 874, 897]) 920 dL_law_32 rfl rfl (by decide) (by decide) (fun c_32 => ?_) (fun j32 t32 ht32 c_32 => ?_)
      · exact law_nx ok ih (oks_0 hS) hc hm
      · rcases j32 with _ | _ | _ | _ | _ | _ | _ | _ | _ | _ | _ | _ | _ | _ | _ | _ | _ | _ | _ | _ | _ | _ | _ | _ | _ | _ | _ | j32
        · cases ht32; exact law_0 ok hX hN h5 ih hS hc hm
        · cases ht32; exact law_1 ok hX hN h5 ih hS hc hm
        · cases ht32; exact law_2 ok hX hN h5 ih hS hc hm
        · cases ht32; exact law_3 ok hX hN h5 ih hS hc hm
        · cases ht32; exact law_4 ok hX hN h5 ih hS hc hm
        · cases ht32; exact law_5 ok hX hN h5 ih hS hc hm
        · cases ht32; exact law_6 ok hX hN h5 ih hS hc hm
        · cases ht32; exact law_7 ok hX hN h5 ih hS hc hm
        · cases ht32; exact law_8 ok hX hN h5 ih hS hc hm
        · cases ht32; exact law_9 ok hX hN h5 ih hS hc hm
        · cases ht32; exact law_10 ok hX hN h5 ih hS hc hm
        · cases ht32; exact law_11 ok hX hN h5 ih hS hc hm
        · cases ht32; exact law_12 ok hX hN h5 ih hS hc hm
        · cases ht32; exact law_13 ok hX hN h5 ih hS hc hm
        · cases ht32; exact law_14 ok hX hN h5 ih hS hc hm
        · cases ht32; exact law_15 ok hX hN h5 ih hS hc hm
        · cases ht32; exact law_16 ok hX hN h5 ih hS hc hm
        · cases ht32; exact law_17 ok hX hN h5 ih hS hc hm
        · cases ht32; exact law_18 ok hX hN h5 ih hS hc hm
        · cases ht32; exact law_19 ok hX hN h5 ih hS hc hm
        · cases ht32; exact law_20 ok hX hN h5 ih hS hc hm
        · cases ht32; exact law_21 ok hX hN h5 ih hS hc hm
        · cases ht32; exact law_22 ok hX hN h5 ih hS hc hm
        · cases ht32; exact law_23 ok hX hN h5 ih hS hc hm
        · cases ht32; exact law_24 ok hX hN h5 ih hS hc hm
        · cases ht32; exact law_25 ok hX hN h5 ih hS hc hm
        · cases ht32; exact law_26 ok hX hN h5 ih hS hc hm
        · cases ht32
theorem law_end {p : Program} {l : Launch} {e : Env} {s : State} {m : MethodId} {below : List Frame} {meth : Method} {c : Code} {b ce sl nL : Nat} {D : va_G} {tys : List (ClassId × FieldType)} (hx : p.tables.exec = Jvm.exec) (hb : c.code = code) (hr : meth.sig.returnType = ret) (hlocks : meth.locks = false) (h1 : ce ≤ 600000) (h2 : sl ≤ 7302250) (ws : va_W) (lv : List (Nat × Value)) :
    XX ((p, l, e, room_1, s, m, #[Value.ref b], below, meth, c), (s.heap, (fun q : Nat => s.heap.size ≤ q), D, tys, nL, ce, sl, lw_Z below #[Value.ref b] s)) ws lv 927 [.int (nI 1)] := by
  intro H locs ls hP hD hS hl
  refine va_forget (fun q hq => hS.2.2 q hq) ?_
  refine W.widen (k := 600000) (n := 7302250) h1 h2 ?_
  exact lw_ret hx hb hr hlocks dL_law_927

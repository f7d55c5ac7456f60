def zW (g : Nat → Nat) (kk : Nat → ClassId) : va_W := [((g 1), .inr (11, [.ref (g 2), .int 0, .ref (g 3), .ref (g 4), .ref (g 5), .ref (g 6), .ref (g 7), .ref (g 8), .ref (g 9), .ref (g 10), .ref (g 11), .ref (g 12), .ref (g 13), .ref (g 14), .ref (g 15), .ref (g 16)])),
  ((g 2), .inl ((kk 0), 1200, .inl (fun _ => 0))),
  ((g 3), .inr (8, [.ref (g 17), .ref (g 18), .int 0, .int 0, .int 0, .int 0, .int 0, .long 0, .int 0, .int (-1)])),
  ((g 4), .inr (7, [.ref (g 3), .ref (g 19), .ref (g 20), .int 0])),
  ((g 5), .inr (10, [.ref (g 3), .null])),
  ((g 6), .inr (1, [.ref (g 21), .ref (g 22), .int 0])),
  ((g 21), .inl ((kk 1), 8, .inr (.inr (.inr (.inr (fun _ => none)))))),
  ((g 22), .inr (4, [.null, .null, .null, .ref (g 23), .ref (g 24), .ref (g 25), .ref (g 26), .ref (g 27), .ref (g 28), .ref (g 29), .ref (g 30), .int 0, .int 0])),
  ((g 7), .inl ((kk 2), 3, .inr (.inr (.inr (.inr (va_up (va_up (va_up (fun _ => none) 0 (some (g 31))) 1 (some (g 32))) 2 (some (g 33)))))))),
  ((g 8), .inr (6, [.ref (g 34), .ref (g 35), .ref (g 36), .ref (g 37), .ref (g 38), .ref (g 39), .ref (g 40), .ref (g 41), .ref (g 42), .int 0, .int 0, .int 0, .int 0, .int 0])),
  ((g 9), .inr (9, [.ref (g 43), .ref (g 44), .ref (g 45), .int 0, .int 0])),
  ((g 10), .inr (9, [.ref (g 46), .ref (g 47), .ref (g 48), .int 0, .int 0])),
  ((g 31), .inr (1, [.ref (g 49), .ref (g 50), .int (-1)])),
  ((g 49), .inl ((kk 3), 8, .inr (.inr (.inr (.inr (fun _ => none)))))),
  ((g 50), .inr (4, [.null, .null, .null, .ref (g 51), .ref (g 52), .ref (g 53), .ref (g 54), .ref (g 55), .ref (g 56), .ref (g 57), .ref (g 58), .int 0, .int 0])),
  ((g 32), .inr (1, [.ref (g 59), .ref (g 60), .int (-1)])),
  ((g 59), .inl ((kk 4), 8, .inr (.inr (.inr (.inr (fun _ => none)))))),
  ((g 60), .inr (4, [.null, .null, .null, .ref (g 61), .ref (g 62), .ref (g 63), .ref (g 64), .ref (g 65), .ref (g 66), .ref (g 67), .ref (g 68), .int 0, .int 0])),
  ((g 33), .inr (1, [.ref (g 69), .ref (g 70), .int (-1)])),
  ((g 69), .inl ((kk 5), 8, .inr (.inr (.inr (.inr (fun _ => none)))))),
  ((g 70), .inr (4, [.null, .null, .null, .ref (g 71), .ref (g 72), .ref (g 73), .ref (g 74), .ref (g 75), .ref (g 76), .ref (g 77), .ref (g 78), .int 0, .int 0])),
  ((g 0), .inr (12, [.ref (g 79), .ref (g 80), .int 0, .int 0, .int 0, .int (-1), .int 0, .int 0, .int 0, .int 0, .long 0, .ref (g 81), .ref (g 82), .ref (g 83), .ref (g 84), .ref (g 85), .ref (g 86), .ref (g 87), .ref (g 88), .ref (g 89), .int 0, .int 0, .ref (g 90), .ref (g 91), .ref (g 92), .ref (g 93), .ref (g 94), .ref (g 95), .ref (g 96), .ref (g 97), .ref (g 98), .int 0, .int 0, .ref (g 99), .ref (g 100), .ref (g 101), .ref (g 102), .ref (g 103), .ref (g 104), .int 0, .int 0, .int 0, .int 0, .ref (g 105), .ref (g 106), .ref (g 107), .ref (g 108), .ref (g 109), .ref (g 110), .ref (g 111), .int 0, .int 0, .int 0, .int 0, .int 0, .ref (g 112), .int 0, .int 0, .int 0, .int 0, .int 0, .int 0, .int 0, .ref (g 113), .ref (g 114), .ref (g 115), .ref (g 116), .ref (g 117), .ref (g 118), .ref (g 119), .ref (g 120), .ref (g 121), .int 0, .int 0, .int 0, .int 0, .ref (g 122), .ref (g 123), .ref (g 124), .ref (g 125)])),
  ((g 79), .inl ((kk 6), 1220, .inl (fun _ => 0))),
  ((g 81), .inl ((kk 7), 44, .inl (fun _ => 0))),
  ((g 112), .inl ((kk 8), 160, .inl (fun _ => 0))),
  ((g 116), .inl ((kk 9), 2, .inl (fun _ => 0))),
  ((g 117), .inl ((kk 10), 2, .inl (fun _ => 0))),
  ((g 122), .inl ((kk 11), 3, .inl (upd (upd (upd (fun _ => 0) 0 (-1)) 1 (-1)) 2 (-1)))),
  ((g 123), .inl ((kk 12), 12, .inl (fun _ => 0))),
  ((g 124), .inl ((kk 13), 480, .inl (fun _ => 0))),
  ((g 125), .inl ((kk 14), 3, .inl (fun _ => 0)))]
def zY (kk : Nat → ClassId) : List (ClassId × FieldType) := [((kk 0), .int), ((kk 1), (.object RX6)), ((kk 2), (.object RX1)), ((kk 3), (.object RX6)), ((kk 4), (.object RX6)), ((kk 5), (.object RX6)), ((kk 6), .byte), ((kk 7), .int), ((kk 8), .int), ((kk 9), .int), ((kk 10), .int), ((kk 11), .int), ((kk 12), .int), ((kk 13), .int), ((kk 14), .boolean)]
set_option maxHeartbeats 1000000 in
set_option maxRecDepth 100000 in
/-- behind a call whose answers agree: the second look at the loop's test ends it -/
theorem law_exit {p : Program} {l : Launch} {e : Env} {s : State} {m : MethodId} {below : List Frame} {meth : Method} {c : Code} {b : Nat} {xs : Nat → Int32} {A : Nat → Prop} (C0 : lw_At p s m meth c b 6 xs) (hAr : ∀ q, A q → s.heap.size ≤ q) {H : Heap} {locs : List Loc} (hS : va_S A s.heap H locs) {ls : Array Slot} {x1 x2 : Nat} (hl : lv_has ls 4 [(3, .int 0), (2, .ref x2), (1, .ref x1), (0, .ref b)]) {nc ns : Nat} (hc : nc ≤ 600000) (hs : ns ≤ 7302250) : W p l e room_1 s m #[Value.ref b] below meth c H locs nc ns (lw_Z below #[Value.ref b] s) (F0 m 1144 ls []) := by
  obtain ⟨hx, hb, hr, hml, hown, hts, hX, hbl, hlocks, hgv⟩ := C0
  have hbA : ¬ A b := fun h => absurd (hAr b h) (Nat.not_le.mpr hbl)
  refine lv_iinc (v := 6) (lv' := [(3, .int 6), (2, .ref x2), (1, .ref x1), (0, .ref b)]) hx hb dL_law_1144 hl (k := 0) rfl (by decide) (by decide) rfl (fun ls hl => ?_)
  refine lv_goto (tgt := 18) hx hb dL_law_1147 (by decide) ?_
  refine lv_iload_n hx hb dL_law_18 rfl (lv_at hl 0 rfl) ?_
  refine lv_aload_n hx hb dL_law_19 rfl (lv_at hl 3 rfl) ?_
  refine va_slen hx hb hX hbl hbA hS dL_law_20 ?_
  refine lv_bipush (v := 6) hx hb dL_law_21 (by decide) ?_
  refine lv_isub hx hb dL_law_23 ?_
  refine zz_ci (y := 0) (by decide) ?_
  refine lv_icmp_gt (tgt := 1150) hx hb dL_law_24 (by decide) (fun c_1 => ?_) (fun c_1 => absurd (by decide) c_1)
  refine lv_iconst (v := 1) hx hb dL_law_1150 (by decide) ?_
  refine va_forget (fun q hq => hAr _ (hS.2.2 q hq)) ?_
  refine W.widen (k := 600000) (n := 7302250) hc hs ?_
  exact lw_ret hx hb hr hlocks dL_law_1151
def f_J9_floorMod_7cf53 (x0 : Int32) (x1 : Int32) : Int32 :=
  if 0 ≤ (x0 ^^^ x1) then ((x0 - x0 / x1 * x1))
  else (if (x0 - x0 / x1 * x1) = 0 then ((x0 - x0 / x1 * x1))
  else (((x0 - x0 / x1 * x1) + x1)))
def f_X6_isOutside (x0 : Int32) (x1 : Int32) (x2 : Int32) : Int32 :=
  if x0 < x1 then (1)
  else (if x0 ≤ x2 then (0)
  else (1))
def k_X3_clear_30  : Nat → Int32 → ob_S → ob_S
  | 0, x3, u => u
  | n + 1, x3, u =>
  if 64 ≤ x3 then (u)
  else ((k_X3_clear_30  n (x3 + 1) (ob_a (ob_a u 0 (Int32.toNatClampNeg x3) 65535) 1 (Int32.toNatClampNeg x3) (vp_nar .boolean 0))))
def f_X3_clear (u : ob_S) (x1 : Int32) (x2 : Int32) : ob_S :=
  (k_X3_clear_30  65 0 (ob_i (ob_i (ob_i u 4 (if 0 < (if 64 < x1 then 64 else x1) then (if 64 < x1 then 64 else x1) else 0)) 5 (if 1 < x2 then x2 else 1)) 3 0))
def f_X1_empty (N : Nat) (u : ob_S) : ob_S :=
  (ob_i u 1 0)
def f_X2_clear (u : ob_S) : ob_S :=
  (ob_i (ob_i (ob_i u 0 0) 1 0) 2 0)
def f_X4_clear (u : ob_S) : ob_S :=
  (ob_i (ob_i u 2 0) 3 0)
def f_X0_forget (u : ob_S) : ob_S :=
  (ob_i (ob_i (ob_i u 0 0) 1 0) 2 0)
def f_X0_clear (u : ob_S) : ob_S :=
  let r_1 := (f_X0_forget u);
  (ob_i (ob_i (ob_i r_1 3 0) 4 0) 5 0)
def f_X5_clear (u : ob_S) : ob_S :=
  (ob_i (ob_i (ob_i (ob_i (ob_i u 0 0) 1 0) 2 0) 3 0) 4 0)
def f_X6_goDark (u : cd_S) : cd_S :=
  let r_1 := (f_X2_clear (u 7));
  let r_2 := (f_X4_clear (u 4));
  let r_3 := (f_X0_clear (u 5));
  let r_4 := (f_X5_clear (u 6));
  (va_up (va_up (va_up (va_up (cd_i (cd_i (cd_i (cd_i (cd_i u 12 (-1)) 13 0) 14 0) 15 0) 16 0) 7 r_1) 4 r_2) 5 r_3) 6 r_4)
def f_X6_renew (u : cd_S) (x1 : Int32) (x2 : Int32) (x3 : Int32) (x4 : Int32) : cd_S :=
  let r_1 := (f_X3_clear (u 1) x1 x2);
  let r_2 := (f_X1_empty 8 (u 3));
  let r_3 := (f_X6_goDark (cd_i (cd_i (va_up (va_up (cd_i (cd_i u 7 x3) 8 x4) 1 r_1) 3 r_2) 9 0) 10 0));
  r_3
def f_X6_make (u : cd_S) (x1 : Int32) (x2 : Int32) (x3 : Int32) (x4 : Int32) : Int32 × cd_S :=
  if (f_X6_isOutside x1 4 64) = 0 then (if (f_X6_isOutside x2 1 8) = 0 then (if (f_X6_isOutside x3 0 9) = 0 then (if (f_X6_isOutside x4 0 65535) = 0 then (let r_5 := (f_X6_renew u x1 x2 x3 x4);
  (x1, r_5))
  else (((-1), u)))
  else (((-1), u)))
  else (((-1), u)))
  else (((-1), u))
def f_X6_isPowered (u : cd_S) : Int32 :=
  if ((u 0).1 12) = (-1) then (0)
  else (1)
def f_X1_length (N : Nat) (u : ob_S) : Int32 :=
  (u.1 1)
def f_X6_start (u : cd_S) : cd_S :=
  let r_1 := (f_X6_goDark u);
  let y_2 : Int32 := (if (f_X1_length 8 (r_1 3)) ≤ 0 then 0 else 1);
  (cd_i (cd_i r_1 12 0) 16 y_2)
def f_X4_firstHasBegun (u : ob_S) : Int32 :=
  if (u.1 2) ≤ 0 then (0)
  else (if (u.1 3) ≤ 0 then (0)
  else (1))
def f_X4_tellOf (u : ob_S) (x1 : Int32) (x2 : Int32) : Int32 :=
  if x1 < 0 then ((-4))
  else (if (u.1 2) ≤ x1 then ((-4))
  else (if x1 < 2 then (if x2 = 0 then ((u.2 0 (Int32.toNatClampNeg x1)))
  else (if x2 = 1 then ((u.2 1 (Int32.toNatClampNeg x1)))
  else (if x1 = 0 then ((u.1 3))
  else (0))))
  else ((-4))))
def k_X3_dropWritten_5 (x1 : Int32) (x2 : Int32) : Nat → Int32 → Int32 → ob_S → ob_S
  | 0, x3, x4, u => u
  | n + 1, x3, x4, u =>
  if (u.1 3) ≤ x4 then ((ob_i u 3 x3))
  else (if 64 ≤ x4 then ((ob_i u 3 x3))
  else (if (u.2 2 (Int32.toNatClampNeg x4)) < x1 then ((k_X3_dropWritten_5 x1 x2 n (x3 + 1) (x4 + 1) (ob_a u 2 (Int32.toNatClampNeg x3) (u.2 2 (Int32.toNatClampNeg x4)))))
  else (if (u.2 2 (Int32.toNatClampNeg x4)) < x2 then ((k_X3_dropWritten_5 x1 x2 n x3 (x4 + 1) u))
  else ((k_X3_dropWritten_5 x1 x2 n (x3 + 1) (x4 + 1) (ob_a u 2 (Int32.toNatClampNeg x3) (u.2 2 (Int32.toNatClampNeg x4))))))))
def f_X3_dropWritten (u : ob_S) (x1 : Int32) (x2 : Int32) : ob_S :=
  (k_X3_dropWritten_5 x1 x2 65 0 0 u)
def k_X3_blank_19 (x1 : Int32) (x3 : Int32) (x4 : Int32) : Nat → Int32 → ob_S → ob_S
  | 0, x5, u => u
  | n + 1, x5, u =>
  if x4 ≤ x5 then (let r_2 := (f_X3_dropWritten u x1 x4);
  r_2)
  else ((k_X3_blank_19 x1 x3 x4 n (x5 + 1) (ob_a (ob_a u 0 (Int32.toNatClampNeg x5) 65535) 1 (Int32.toNatClampNeg x5) (vp_nar .boolean x3))))
def f_X3_blank (u : ob_S) (x1 : Int32) (x2 : Int32) (x3 : Int32) : ob_S :=
  (k_X3_blank_19 x1 x3 (if (u.1 4) < (x1 + x2) then (u.1 4) else (x1 + x2)) 65 (if 0 < x1 then x1 else 0) u)
def f_X3_tear (u : ob_S) (x1 : Int32) : ob_S :=
  let r_1 := (f_X3_blank u x1 1 1);
  r_1
def f_X0_groupHasBegun (u : ob_S) : Int32 :=
  if (u.1 4) ≤ 0 then (0)
  else (if (u.1 5) ≤ 0 then (0)
  else (1))
def f_X0_group (u : ob_S) : Int32 :=
  (u.1 3)
def f_X3_tearGroup (u : ob_S) (x1 : Int32) : ob_S :=
  let r_1 := (f_X3_blank u (x1 * (u.1 5)) (u.1 5) 1);
  r_1
def f_X6_tearUnfinished (u : cd_S) : cd_S :=
  if (f_X4_firstHasBegun (u 4)) = 0 then (if (f_X0_groupHasBegun (u 5)) = 0 then (u)
  else (let r_3 := (f_X3_tearGroup (u 1) (f_X0_group (u 5)));
  (va_up u 1 r_3)))
  else (let r_4 := (f_X3_tear (u 1) (f_X4_tellOf (u 4) 0 0));
  if (f_X0_groupHasBegun (u 5)) = 0 then ((va_up u 1 r_4))
  else (let r_6 := (f_X3_tearGroup r_4 (f_X0_group (u 5)));
  (va_up (va_up u 1 r_4) 1 r_6)))
def f_X6_power (u : cd_S) (x1 : Int32) : Int32 × cd_S :=
  if (f_X6_isOutside x1 0 1) = 0 then (let y_2 : Int32 := (if x1 = 1 then 1 else 0);
  if (f_X6_isPowered u) = y_2 then (((-2), u))
  else (if x1 = 1 then (let r_8 := (f_X6_start u);
  (1, r_8))
  else (let r_6 := (f_X6_tearUnfinished u);
  let r_7 := (f_X6_goDark r_6);
  (1, r_7))))
  else (((-1), u))
def f_X6_warm (u : cd_S) (x1 : Int32) : Int32 × cd_S :=
  if (f_X6_isOutside x1 0 15) = 0 then ((((u 0).1 11), (cd_i u 11 x1)))
  else (((-1), u))
def f_X1_append (N : Nat) (u : ob_S) (x1 : Int32) : Int32 × ob_S :=
  if (u.1 1) < 0 then ((0, u))
  else (if (u.1 1) < (Int32.ofNat N) then ((1, (ob_i (ob_a u 0 (Int32.toNatClampNeg (u.1 1)) x1) 1 ((u.1 1) + 1))))
  else ((0, u)))
def f_X6_write (u : cd_S) (x1 : Int32) : Int32 × cd_S :=
  if (f_X6_isOutside x1 32 126) = 0 then (let r_2 := (f_X1_append 200 (u 2) x1);
  if r_2.1 = 0 then (((-3), (va_up u 2 r_2.2)))
  else (((f_X1_length 200 r_2.2), (va_up u 2 r_2.2))))
  else (((-1), u))
def f_X6_wipe (u : cd_S) : Int32 × cd_S :=
  let r_1 := (f_X1_empty 200 (u 2));
  ((f_X1_length 200 (u 2)), (va_up u 2 r_1))
def f_X6_isNoCommand (x0 : Int32) (x1 : Int32) : Int32 :=
  if (f_X6_isOutside x0 0 63) = 0 then (if (f_X6_isOutside x1 0 65535) = 0 then (0)
  else (1))
  else (1)
def k_X6_checkOfBits_6 (x0 : Int32) : Nat → Int32 → Int32 → Int32
  | 0, x2, x3 => 0
  | n + 1, x2, x3 =>
  if x3 < 0 then (x2)
  else ((k_X6_checkOfBits_6 x0 n (((x2 <<< ((1 : Int32) &&& 31)) &&& 127) ^^^ (9 * (((x0 >>> ((x3 : Int32) &&& 31)) &&& 1) ^^^ (x2 >>> ((6 : Int32) &&& 31))))) (x3 + (-1))))
def f_X6_checkOfBits (x0 : Int32) (x1 : Int32) : Int32 :=
  (k_X6_checkOfBits_6 x0 23 0 (x1 - 1))
def f_X6_commandCheck (x0 : Int32) (x1 : Int32) : Int32 :=
  (f_X6_checkOfBits ((65536 * x0) + x1) 22)
def f_X6_check (u : cd_S) (x1 : Int32) (x2 : Int32) : Int32 :=
  if (f_X6_isNoCommand x1 x2) = 0 then ((f_X6_commandCheck x1 x2))
  else ((-1))
def f_X6_contentCheck (x0 : Int32) : Int32 :=
  (f_X6_checkOfBits x0 16)
def f_X6_checkOf (u : cd_S) (x1 : Int32) : Int32 :=
  if (f_X6_isOutside x1 0 65535) = 0 then ((f_X6_contentCheck x1))
  else ((-1))
def f_X6_note (u : cd_S) (x1 : Int32) : cd_S :=
  (cd_i u 14 (((u 0).1 14) ||| x1))
def f_X6_isBarredByLock (x0 : Int32) : Int32 :=
  if x0 = 6 then (1)
  else (if x0 = 17 then (1)
  else (if x0 = 18 then (1)
  else (if x0 = 21 then (1)
  else (if x0 = 22 then (1)
  else (if x0 = 23 then (1)
  else (if x0 = 24 then (1)
  else (if x0 = 25 then (1)
  else (if x0 = 32 then (1)
  else (if x0 = 33 then (1)
  else (if x0 = 38 then (1)
  else (0)))))))))))
def f_X6_statesOf (x0 : Int32) : Int32 :=
  if x0 = 0 then (255)
  else (if x0 = 1 then (1)
  else (if x0 = 2 then (2)
  else (if x0 = 3 then (12)
  else (if x0 = 7 then (24)
  else (if x0 = 12 then (96)
  else (if x0 = 13 then (248)
  else (if x0 = 42 then (16)
  else (if (f_X6_isBarredByLock x0) = 0 then (0)
  else (16)))))))))
def f_X6_isOpenTo (u : cd_S) (x1 : Int32) : Int32 :=
  if ((u 0).1 16) = 0 then (if (((f_X6_statesOf x1) >>> ((((u 0).1 12) : Int32) &&& 31)) &&& 1) = 1 then (1)
  else (0))
  else (if (f_X6_isBarredByLock x1) = 0 then (if (((f_X6_statesOf x1) >>> ((((u 0).1 12) : Int32) &&& 31)) &&& 1) = 1 then (1)
  else (0))
  else (0))
def f_X0_isBrokenOffBy (u : ob_S) (x1 : Int32) : Int32 :=
  if (u.1 0) = 0 then (0)
  else (if x1 = 13 then (0)
  else (let y_3 : Int32 := (if (u.1 0) = 1 then (if x1 = 33 then 1 else 0) else (if x1 = 38 then 1 else 0));
  if y_3 = 0 then (1)
  else (0)))
def f_X6_hears (u : cd_S) (x1 : Int32) (x2 : Int32) (x3 : Int32) : Int32 × cd_S :=
  if (f_X6_isPowered u) = 0 then ((0, u))
  else (if x3 = (f_X6_commandCheck x1 x2) then (if (f_X6_isOpenTo u x1) = 0 then (let r_7 := (f_X6_note u 2);
  (0, r_7))
  else (if (f_X0_isBrokenOffBy (u 5) x1) = 0 then ((1, u))
  else (let r_5 := (f_X0_forget (u 5));
  let r_6 := (f_X6_note (va_up u 5 r_5) 8);
  (1, r_6))))
  else (let r_8 := (f_X6_note u 1);
  (0, r_8)))
def f_X6_reset (u : cd_S) : Int32 × cd_S :=
  let r_1 := (f_X6_tearUnfinished u);
  let r_2 := (f_X6_start r_1);
  (0, r_2)
def f_X6_wake (u : cd_S) : Int32 × cd_S :=
  if ((u 0).1 7) < (((u 0).1 15) + 1) then ((1, (cd_i (cd_i u 15 (((u 0).1 15) + 1)) 12 1)))
  else ((0, (cd_i u 15 (((u 0).1 15) + 1))))
def f_X6_tellNumber (u : cd_S) : Int32 × cd_S :=
  (((u 0).1 8), (cd_i u 12 2))
def f_X6_takeAddress (u : cd_S) : Int32 × cd_S :=
  ((((u 0).1 13) + 1), (cd_i (cd_i u 13 (((u 0).1 13) + 1)) 12 3))
def f_X6_choose (u : cd_S) (x1 : Int32) : Int32 × cd_S :=
  let y_1 : Int32 := (if x1 = ((u 0).1 13) then 1 else 0);
  if ((u 0).1 12) = 3 then (if y_1 = 0 then (if y_1 = 0 then (((-4), (cd_i u 12 3)))
  else (((-4), u)))
  else ((1, (cd_i u 12 4))))
  else (if y_1 = 0 then (((-4), (cd_i u 12 3)))
  else (((-4), u)))
def f_X6_asNumber (x0 : Int32) : Int32 :=
  if x0 = 0 then (0)
  else (1)
def f_X6_tellStatus (u : cd_S) (x1 : Int32) : Int32 × cd_S :=
  if x1 = ((u 0).1 13) then (((((256 * ((u 0).1 12)) + (128 * (f_X6_asNumber ((u 0).1 16)))) + ((u 0).1 14)), (cd_i u 14 0)))
  else (((-4), u))
def f_X2_change (u : ob_S) (x1 : Int32) (x2 : Int32) : Int32 × ob_S :=
  if 3 < x1 then ((0, u))
  else (if 2 < x2 then ((0, u))
  else (if x2 = 0 then (if x1 ≤ 1 then ((1, (ob_i (ob_i u 1 x1) 0 x2)))
  else ((0, u)))
  else ((1, (ob_i (ob_i u 1 x1) 0 x2)))))
def f_X2_speed (u : ob_S) : Int32 :=
  (u.1 1)
def f_X2_lines (u : ob_S) : Int32 :=
  (u.1 0)
def f_X6_switchLines (u : cd_S) (x1 : Int32) : Int32 × cd_S :=
  let r_1 := (f_X2_change (u 7) (x1 / 4) (x1 - x1 / 4 * 4));
  if r_1.1 = 0 then (let r_3 := (f_X6_note (va_up u 7 r_1.2) 32);
  (((4 * (f_X2_speed (r_3 7))) + (f_X2_lines (r_3 7))), r_3))
  else ((((4 * (f_X2_speed r_1.2)) + (f_X2_lines r_1.2)), (va_up u 7 r_1.2)))
def f_X2_look (u : ob_S) (x1 : Int32) : ob_S :=
  (ob_i u 2 x1)
def f_X2_isInWindow (u : ob_S) (x1 : Int32) : Int32 :=
  if (7 - (2 * (u.1 1))) < (if (16 - (f_J9_floorMod_7cf53 ((u.1 2) - (((3 + (5 * (u.1 1))) + x1) - ((3 + (5 * (u.1 1))) + x1) / 16 * 16)) 16)) < (f_J9_floorMod_7cf53 ((u.1 2) - (((3 + (5 * (u.1 1))) + x1) - ((3 + (5 * (u.1 1))) + x1) / 16 * 16)) 16) then (16 - (f_J9_floorMod_7cf53 ((u.1 2) - (((3 + (5 * (u.1 1))) + x1) - ((3 + (5 * (u.1 1))) + x1) / 16 * 16)) 16)) else (f_J9_floorMod_7cf53 ((u.1 2) - (((3 + (5 * (u.1 1))) + x1) - ((3 + (5 * (u.1 1))) + x1) / 16 * 16)) 16)) then (0)
  else (1)
def f_X6_movePoint (u : cd_S) (x1 : Int32) : Int32 × cd_S :=
  let r_1 := (f_X2_look (u 7) (x1 - x1 / 16 * 16));
  ((f_X6_asNumber (f_X2_isInWindow r_1 ((u 0).1 11))), (va_up u 7 r_1))
def f_X5_expect (u : ob_S) (x1 : Int32) : ob_S :=
  (ob_i u 0 x1)
def f_X6_expect (u : cd_S) (x1 : Int32) : Int32 × cd_S :=
  let r_1 := (f_X5_expect (u 6) x1);
  (x1, (va_up u 6 r_1))
def f_X3_has (u : ob_S) (x1 : Int32) : Int32 :=
  if x1 < 0 then (0)
  else (if (u.1 4) ≤ x1 then (0)
  else (1))
def f_X6_refuse (u : cd_S) (x1 : Int32) : Int32 × cd_S :=
  let r_1 := (f_X6_note u x1);
  ((-2), r_1)
def f_X5_begin (u : ob_S) (x1 : Int32) (x2 : Int32) : ob_S :=
  let y_1 : Int32 := (if x2 = 0 then (u.1 0) else 1);
  let y_3 : Int32 := (if y_1 ≤ 0 then 0 else 1);
  (ob_i (ob_i (ob_i (ob_i (ob_i u 1 x1) 2 y_1) 3 y_3) 4 0) 0 0)
def f_X6_beginStream (u : cd_S) (x1 : Int32) (x2 : Int32) (x3 : Int32) : Int32 × cd_S :=
  if (f_X3_has (u 1) x2) = 0 then (let r_4 := (f_X6_refuse u 4);
  (r_4.1, r_4.2))
  else (let r_2 := (f_X5_begin (u 6) x2 x3);
  if x1 = 6 then ((0, (cd_i (cd_i (va_up u 6 r_2) 12 x1) 9 0)))
  else ((0, (cd_i (va_up u 6 r_2) 12 x1))))
def f_X4_size (u : ob_S) : Int32 :=
  (u.1 2)
def f_X6_stop (u : cd_S) : Int32 × cd_S :=
  let y_1 : Int32 := (if (f_X4_size (u 4)) ≤ 0 then 4 else 7);
  ((f_X4_size (u 4)), (cd_i u 12 y_1))
def f_X0_beginFrom (u : ob_S) (x1 : Int32) : ob_S :=
  (ob_i (ob_i u 0 1) 1 x1)
def f_X6_eraseFrom (u : cd_S) (x1 : Int32) : Int32 × cd_S :=
  if (f_X3_has (u 1) x1) = 0 then (let r_3 := (f_X6_refuse u 4);
  (r_3.1, r_3.2))
  else (let r_2 := (f_X0_beginFrom (u 5) x1);
  (0, (va_up u 5 r_2)))
def f_X0_continueTo (u : ob_S) (x1 : Int32) : Int32 × ob_S :=
  if (u.1 0) = 1 then (if (u.1 1) ≤ x1 then ((1, (ob_i (ob_i u 0 2) 2 x1)))
  else ((0, u)))
  else ((0, u))
def f_X6_eraseTo (u : cd_S) (x1 : Int32) : Int32 × cd_S :=
  if (f_X3_has (u 1) x1) = 0 then (let r_6 := (f_X0_forget (u 5));
  let r_7 := (f_X6_refuse (va_up u 5 r_6) 4);
  (r_7.1, r_7.2))
  else (let r_2 := (f_X0_continueTo (u 5) x1);
  if r_2.1 = 0 then (let r_4 := (f_X0_forget r_2.2);
  let r_5 := (f_X6_refuse (va_up (va_up u 5 r_2.2) 5 r_4) 8);
  (r_5.1, r_5.2))
  else ((0, (va_up u 5 r_2.2))))
def f_X0_isReady (u : ob_S) : Int32 :=
  if (u.1 0) = 2 then (1)
  else (0)
def f_X0_from (u : ob_S) : Int32 :=
  (u.1 1)
def f_X3_groupOf (u : ob_S) (x1 : Int32) : Int32 :=
  if (u.1 5) ≤ 0 then (0)
  else ((x1 / (u.1 5)))
def f_X0_to (u : ob_S) : Int32 :=
  (u.1 2)
def f_X0_begin (u : ob_S) (x1 : Int32) (x2 : Int32) : ob_S :=
  let r_1 := (f_X0_forget u);
  (ob_i (ob_i (ob_i r_1 3 x1) 4 ((x2 - x1) + 1)) 5 0)
def f_X0_groupsLeft (u : ob_S) : Int32 :=
  (u.1 4)
def f_X6_beginErasing (u : cd_S) (x1 : Int32) (x2 : Int32) : Int32 × cd_S :=
  let r_1 := (f_X0_begin (u 5) x1 x2);
  ((f_X0_groupsLeft r_1), (cd_i (va_up u 5 r_1) 12 7))
def f_X6_erase (u : cd_S) : Int32 × cd_S :=
  if (f_X0_isReady (u 5)) = 0 then (let r_3 := (f_X6_refuse u 8);
  (r_3.1, r_3.2))
  else (let r_2 := (f_X6_beginErasing u (f_X3_groupOf (u 1) (f_X0_from (u 5))) (f_X3_groupOf (u 1) (f_X0_to (u 5))));
  (r_2.1, r_2.2))
def f_X1_at (N : Nat) (u : ob_S) (x1 : Int32) : Int32 :=
  if x1 < 0 then ((-4))
  else (if (u.1 1) ≤ x1 then ((-4))
  else (if (Int32.ofNat N) ≤ x1 then ((-4))
  else ((u.2 0 (Int32.toNatClampNeg x1)))))
def k_X1_startsWith_15 (N M : Nat) (u : ob_S) (v : ob_S) : Nat → Int32 → Int32
  | 0, x2 => 0
  | n + 1, x2 =>
  if (v.1 1) ≤ x2 then (1)
  else (if (f_X1_at N u x2) = (f_X1_at M v x2) then ((k_X1_startsWith_15 N M u v n (x2 + 1)))
  else (0))
def f_X1_startsWith (N M : Nat) (u v : ob_S) : Int32 :=
  if (v.1 1) ≤ (u.1 1) then ((k_X1_startsWith_15 N M u v 201 0))
  else (0)
def f_X6_textIsSecret (u : cd_S) : Int32 :=
  if (f_X1_length 8 (u 3)) ≤ 0 then (0)
  else (if (f_X1_length 200 (u 2)) = (f_X1_length 8 (u 3)) then (if (f_X1_startsWith 200 8 (u 2) (u 3)) = 0 then (0)
  else (1))
  else (0))
def f_X6_unlock (u : cd_S) : Int32 × cd_S :=
  if ((u 0).1 16) = 0 then (let r_2 := (f_X6_refuse u 16);
  (r_2.1, r_2.2))
  else (if (f_X6_textIsSecret u) = 0 then (let r_4 := (f_X6_refuse u 16);
  (r_4.1, r_4.2))
  else ((1, (cd_i u 16 0))))
def k_X1_becomeTail_6 (N M : Nat) (v : ob_S) : Nat → Int32 → ob_S → ob_S
  | 0, x3, u => u
  | n + 1, x3, u =>
  if (v.1 1) ≤ x3 then (u)
  else (let r_3 := (f_X1_append N u (f_X1_at M v x3));
  (k_X1_becomeTail_6 N M v n (x3 + 1) r_3.2))
def f_X1_becomeTail (N M : Nat) (u v : ob_S) (x2 : Int32) : ob_S :=
  let r_1 := (f_X1_empty N u);
  (k_X1_becomeTail_6 N M v 201 x2 r_1)
def f_X6_setSecret (u : cd_S) (x1 : Int32) : Int32 × cd_S :=
  if ((u 0).1 16) = 0 then (if (f_X6_isOutside ((f_X1_length 200 (u 2)) - (f_X1_length 8 (u 3))) 1 8) = 0 then (if (f_X1_startsWith 200 8 (u 2) (u 3)) = 0 then (let r_7 := (f_X6_refuse u 16);
  (r_7.1, r_7.2))
  else (let r_6 := (f_X1_becomeTail 8 200 (u 3) (u 2) (f_X1_length 8 (u 3)));
  (1, (cd_i (va_up u 3 r_6) 16 x1))))
  else (let r_4 := (f_X6_refuse u 16);
  (r_4.1, r_4.2)))
  else (let r_2 := (f_X6_refuse u 16);
  (r_2.1, r_2.2))
def f_X6_clearSecret (u : cd_S) : Int32 × cd_S :=
  if ((u 0).1 16) = 0 then (if (f_X6_textIsSecret u) = 0 then (let r_5 := (f_X6_refuse u 16);
  (r_5.1, r_5.2))
  else (let r_4 := (f_X1_empty 8 (u 3));
  (1, (va_up u 3 r_4))))
  else (let r_2 := (f_X6_refuse u 16);
  (r_2.1, r_2.2))
def f_X6_lock (u : cd_S) : Int32 × cd_S :=
  if ((u 0).1 16) = 0 then (if (f_X6_textIsSecret u) = 0 then (let r_4 := (f_X6_refuse u 16);
  (r_4.1, r_4.2))
  else ((1, (cd_i u 16 1))))
  else (let r_2 := (f_X6_refuse u 16);
  (r_2.1, r_2.2))
def f_X3_size (u : ob_S) : Int32 :=
  (u.1 4)
def f_X6_force (u : cd_S) : Int32 × cd_S :=
  if ((u 0).1 16) = 0 then (let r_4 := (f_X6_refuse u 16);
  (r_4.1, r_4.2))
  else (let r_2 := (f_X1_empty 8 (u 3));
  let r_3 := (f_X6_beginErasing (cd_i (va_up u 3 r_2) 16 0) 0 (f_X3_groupOf (u 1) ((f_X3_size (u 1)) - 1)));
  (r_3.1, r_3.2))
def f_X6_changeLock (u : cd_S) (x1 : Int32) : Int32 × cd_S :=
  if x1 = 0 then (let r_2 := (f_X6_unlock u);
  (r_2.1, r_2.2))
  else (if x1 = 1 then (let r_4 := (f_X6_setSecret u 0);
  (r_4.1, r_4.2))
  else (if x1 = 2 then (let r_6 := (f_X6_clearSecret u);
  (r_6.1, r_6.2))
  else (if x1 = 4 then (let r_8 := (f_X6_lock u);
  (r_8.1, r_8.2))
  else (if x1 = 5 then (let r_10 := (f_X6_setSecret u 1);
  (r_10.1, r_10.2))
  else (if x1 = 8 then (let r_12 := (f_X6_force u);
  (r_12.1, r_12.2))
  else (let r_13 := (f_X6_refuse u 16);
  (r_13.1, r_13.2)))))))
def f_X6_obey (u : cd_S) (x1 : Int32) (x2 : Int32) : Int32 × cd_S :=
  if x1 = 0 then (let r_2 := (f_X6_reset u);
  (r_2.1, r_2.2))
  else (if x1 = 1 then (let r_4 := (f_X6_wake u);
  (r_4.1, r_4.2))
  else (if x1 = 2 then (let r_6 := (f_X6_tellNumber u);
  (r_6.1, r_6.2))
  else (if x1 = 3 then (let r_8 := (f_X6_takeAddress u);
  (r_8.1, r_8.2))
  else (if x1 = 6 then (let r_10 := (f_X6_switchLines u x2);
  (r_10.1, r_10.2))
  else (if x1 = 7 then (let r_12 := (f_X6_choose u x2);
  (r_12.1, r_12.2))
  else (if x1 = 12 then (let r_14 := (f_X6_stop u);
  (r_14.1, r_14.2))
  else (if x1 = 13 then (let r_16 := (f_X6_tellStatus u x2);
  (r_16.1, r_16.2))
  else (if x1 = 17 then (let r_18 := (f_X6_beginStream u 5 x2 1);
  (r_18.1, r_18.2))
  else (if x1 = 18 then (let r_20 := (f_X6_beginStream u 5 x2 0);
  (r_20.1, r_20.2))
  else (if x1 = 21 then (let r_22 := (f_X6_movePoint u x2);
  (r_22.1, r_22.2))
  else (if x1 = 22 then ((((u 0).1 9), u))
  else (if x1 = 23 then (let r_25 := (f_X6_expect u x2);
  (r_25.1, r_25.2))
  else (if x1 = 24 then (let r_27 := (f_X6_beginStream u 6 x2 1);
  (r_27.1, r_27.2))
  else (if x1 = 25 then (let r_29 := (f_X6_beginStream u 6 x2 0);
  (r_29.1, r_29.2))
  else (if x1 = 32 then (let r_31 := (f_X6_eraseFrom u x2);
  (r_31.1, r_31.2))
  else (if x1 = 33 then (let r_33 := (f_X6_eraseTo u x2);
  (r_33.1, r_33.2))
  else (if x1 = 38 then (let r_35 := (f_X6_erase u);
  (r_35.1, r_35.2))
  else (if x1 = 42 then (let r_37 := (f_X6_changeLock u x2);
  (r_37.1, r_37.2))
  else (((-4), u))))))))))))))))))))
def f_X6_send (u : cd_S) (x1 : Int32) (x2 : Int32) (x3 : Int32) : Int32 × cd_S :=
  if (f_X6_isNoCommand x1 x2) = 0 then (if (f_X6_isOutside x3 0 127) = 0 then (let r_3 := (f_X6_hears u x1 x2 x3);
  if r_3.1 = 0 then (((-4), r_3.2))
  else (let r_5 := (f_X6_obey r_3.2 x1 x2);
  (r_5.1, r_5.2)))
  else (((-1), u)))
  else (((-1), u))
def f_X6_tell (u : cd_S) (x1 : Int32) (x2 : Int32) : Int32 × cd_S :=
  if (f_X6_isNoCommand x1 x2) = 0 then (let r_2 := (f_X6_hears u x1 x2 (f_X6_commandCheck x1 x2));
  if r_2.1 = 0 then (((-4), r_2.2))
  else (let r_4 := (f_X6_obey r_2.2 x1 x2);
  (r_4.1, r_4.2)))
  else (((-1), u))
def f_X5_isWrong (u : ob_S) : Int32 :=
  (u.1 4)
def f_X5_isComplete (u : ob_S) : Int32 :=
  if (u.1 3) = 0 then (0)
  else (if 0 < (u.1 2) then (0)
  else (1))
def f_X5_next (u : ob_S) : Int32 :=
  (u.1 1)
def f_X4_isFull (u : ob_S) : Int32 :=
  if (u.1 2) < 2 then (0)
  else (1)
def f_X5_spoil (u : ob_S) : ob_S :=
  (ob_i u 4 1)
def f_X4_append (u : ob_S) (x1 : Int32) (x2 : Int32) : ob_S :=
  if (u.1 2) < 0 then (u)
  else (if (u.1 2) < 2 then ((ob_i (ob_a (ob_a u 0 (Int32.toNatClampNeg (u.1 2)) x1) 1 (Int32.toNatClampNeg (u.1 2)) x2) 2 ((u.1 2) + 1)))
  else (u))
def f_X5_advance (u : ob_S) : ob_S :=
  (ob_i (ob_i u 1 ((u.1 1) + 1)) 2 ((u.1 2) - 1))
def f_X6_give (u : cd_S) (x1 : Int32) (x2 : Int32) : Int32 × cd_S :=
  if (f_X6_isOutside x1 0 65535) = 0 then (if (f_X6_isOutside x2 0 127) = 0 then (if ((u 0).1 12) = 6 then (if (f_X5_isWrong (u 6)) = 0 then (if (f_X5_isComplete (u 6)) = 0 then (if (f_X3_has (u 1) (f_X5_next (u 6))) = 0 then (let r_17 := (f_X6_refuse u 4);
  (r_17.1, r_17.2))
  else (if (f_X4_isFull (u 4)) = 0 then (if (f_X2_isInWindow (u 7) ((u 0).1 11)) = 0 then (let r_9 := (f_X6_note u 64);
  let r_10 := (f_X5_spoil (r_9 6));
  (0, (va_up r_9 6 r_10)))
  else (if x2 = (f_X6_contentCheck x1) then (let r_12 := (f_X4_append (u 4) (f_X5_next (u 6)) x1);
  let r_13 := (f_X5_advance (u 6));
  if (f_X5_isComplete r_13) = 0 then ((1, (va_up (va_up u 4 r_12) 6 r_13)))
  else ((1, (cd_i (va_up (va_up u 4 r_12) 6 r_13) 12 7))))
  else (let r_15 := (f_X6_note u 64);
  let r_16 := (f_X5_spoil (r_15 6));
  (0, (va_up r_15 6 r_16)))))
  else (((-3), u))))
  else (((-2), u)))
  else (((-2), u)))
  else (((-2), u)))
  else (((-1), u)))
  else (((-1), u))
def f_X3_isTorn (u : ob_S) (x1 : Int32) : Int32 :=
  if (f_X3_has u x1) = 0 then (0)
  else (if (u.2 1 (Int32.toNatClampNeg x1)) = 0 then (0)
  else (1))
def f_X3_contentOf (u : ob_S) (x1 : Int32) : Int32 :=
  if (f_X3_has u x1) = 0 then (65535)
  else ((u.2 0 (Int32.toNatClampNeg x1)))
def f_X6_get (u : cd_S) : Int32 × cd_S :=
  if ((u 0).1 12) = 5 then (if (f_X2_isInWindow (u 7) ((u 0).1 11)) = 0 then (((-4), u))
  else (if (f_X3_isTorn (u 1) (f_X5_next (u 6))) = 0 then (let r_4 := (f_X5_advance (u 6));
  if (f_X5_isComplete r_4) = 0 then (if (f_X3_has (u 1) (f_X5_next r_4)) = 0 then (((f_X3_contentOf (u 1) (f_X5_next (u 6))), (cd_i (va_up u 6 r_4) 12 4)))
  else (((f_X3_contentOf (u 1) (f_X5_next (u 6))), (va_up u 6 r_4))))
  else (((f_X3_contentOf (u 1) (f_X5_next (u 6))), (cd_i (va_up u 6 r_4) 12 4))))
  else (((-4), u))))
  else (((-2), u))
def f_X4_tickFirst (u : ob_S) : ob_S :=
  (ob_i u 3 ((u.1 3) + 1))
def f_X2_ticksOfBlock (u : ob_S) : Int32 :=
  (4 >>> (((u.1 0) : Int32) &&& 31))
def k_X3_addWrittenFirst_15 (x1 : Int32) : Nat → Int32 → ob_S → ob_S
  | 0, x2, u => u
  | n + 1, x2, u =>
  if x2 ≤ 0 then ((ob_i (ob_a u 2 (Int32.toNatClampNeg 0) x1) 3 ((u.1 3) + 1)))
  else ((k_X3_addWrittenFirst_15 x1 n (x2 + (-1)) (ob_a u 2 (Int32.toNatClampNeg x2) (u.2 2 (Int32.toNatClampNeg (x2 - 1))))))
def f_X3_addWrittenFirst (u : ob_S) (x1 : Int32) : ob_S :=
  if (u.1 3) < 64 then ((k_X3_addWrittenFirst_15 x1 64 (u.1 3) u))
  else (u)
def f_X3_put (u : ob_S) (x1 : Int32) (x2 : Int32) : ob_S :=
  if (f_X3_has u x1) = 0 then (u)
  else (let r_2 := (f_X3_dropWritten (ob_a (ob_a u 0 (Int32.toNatClampNeg x1) x2) 1 (Int32.toNatClampNeg x1) (vp_nar .boolean 0)) x1 (x1 + 1));
  let r_3 := (f_X3_addWrittenFirst r_2 x1);
  r_3)
def k_X4_dropFirst_2  : Nat → Int32 → ob_S → ob_S
  | 0, x1, u => u
  | n + 1, x1, u =>
  if (u.1 2) ≤ x1 then ((ob_i (ob_i u 2 (if 0 < ((u.1 2) - 1) then ((u.1 2) - 1) else 0)) 3 0))
  else (if 2 ≤ x1 then ((ob_i (ob_i u 2 (if 0 < ((u.1 2) - 1) then ((u.1 2) - 1) else 0)) 3 0))
  else ((k_X4_dropFirst_2  n (x1 + 1) (ob_a (ob_a u 0 (Int32.toNatClampNeg (x1 - 1)) (u.2 0 (Int32.toNatClampNeg x1))) 1 (Int32.toNatClampNeg (x1 - 1)) (u.2 1 (Int32.toNatClampNeg x1))))))
def f_X4_dropFirst (u : ob_S) : ob_S :=
  (k_X4_dropFirst_2  2 1 u)
def f_X6_writeFurther (u : cd_S) : cd_S :=
  let r_1 := (f_X4_tickFirst (u 4));
  if (f_X2_ticksOfBlock (u 7)) ≤ (f_X4_tellOf r_1 0 2) then (let r_3 := (f_X3_put (u 1) (f_X4_tellOf r_1 0 0) (f_X4_tellOf r_1 0 1));
  let r_4 := (f_X4_dropFirst r_1);
  (va_up (cd_i (va_up (va_up u 4 r_1) 1 r_3) 9 (((u 0).1 9) + 1)) 4 r_4))
  else ((va_up u 4 r_1))
def f_X0_tickGroup (u : ob_S) : Int32 × ob_S :=
  if 2 ≤ ((u.1 5) + 1) then ((1, (ob_i (ob_i (ob_i (ob_i u 5 ((u.1 5) + 1)) 3 ((u.1 3) + 1)) 4 ((u.1 4) - 1)) 5 0)))
  else ((0, (ob_i u 5 ((u.1 5) + 1))))
def f_X3_eraseGroup (u : ob_S) (x1 : Int32) : ob_S :=
  let r_1 := (f_X3_blank u (x1 * (u.1 5)) (u.1 5) 0);
  r_1
def f_X6_eraseFurther (u : cd_S) : cd_S :=
  let r_1 := (f_X0_tickGroup (u 5));
  if r_1.1 = 0 then ((va_up u 5 r_1.2))
  else (let r_3 := (f_X3_eraseGroup (u 1) (f_X0_group (u 5)));
  (va_up (va_up u 5 r_1.2) 1 r_3))
def f_X6_work (u : cd_S) : cd_S :=
  if ((u 0).1 12) = 6 then (if (f_X4_size (u 4)) ≤ 0 then (if (f_X0_groupsLeft (u 5)) ≤ 0 then (if ((u 0).1 12) = 7 then (if (f_X4_size (u 4)) = 0 then (if (f_X0_groupsLeft (u 5)) = 0 then ((cd_i u 12 4))
  else (u))
  else (u))
  else (u))
  else (let r_7 := (f_X6_eraseFurther u);
  if ((r_7 0).1 12) = 7 then (if (f_X4_size (r_7 4)) = 0 then (if (f_X0_groupsLeft (r_7 5)) = 0 then ((cd_i r_7 12 4))
  else (r_7))
  else (r_7))
  else (r_7)))
  else (let r_11 := (f_X6_writeFurther u);
  if ((r_11 0).1 12) = 7 then (if (f_X4_size (r_11 4)) = 0 then (if (f_X0_groupsLeft (r_11 5)) = 0 then ((cd_i r_11 12 4))
  else (r_11))
  else (r_11))
  else (r_11)))
  else (if ((u 0).1 12) = 7 then (if (f_X4_size (u 4)) ≤ 0 then (if (f_X0_groupsLeft (u 5)) ≤ 0 then (if ((u 0).1 12) = 7 then (if (f_X4_size (u 4)) = 0 then (if (f_X0_groupsLeft (u 5)) = 0 then ((cd_i u 12 4))
  else (u))
  else (u))
  else (u))
  else (let r_21 := (f_X6_eraseFurther u);
  if ((r_21 0).1 12) = 7 then (if (f_X4_size (r_21 4)) = 0 then (if (f_X0_groupsLeft (r_21 5)) = 0 then ((cd_i r_21 12 4))
  else (r_21))
  else (r_21))
  else (r_21)))
  else (let r_25 := (f_X6_writeFurther u);
  if ((r_25 0).1 12) = 7 then (if (f_X4_size (r_25 4)) = 0 then (if (f_X0_groupsLeft (r_25 5)) = 0 then ((cd_i r_25 12 4))
  else (r_25))
  else (r_25))
  else (r_25)))
  else (u))
def k_X6_tick_15 (x1 : Int32) : Nat → Int32 → cd_S → Int32 × cd_S
  | 0, x2, u => (0, u)
  | n + 1, x2, u =>
  if x1 ≤ x2 then ((((u 0).1 10), u))
  else (let r_3 := (f_X6_work (cd_i u 10 (((u 0).1 10) + 1)));
  (k_X6_tick_15 x1 n (x2 + 1) r_3))
def f_X6_tick (u : cd_S) (x1 : Int32) : Int32 × cd_S :=
  if (f_X6_isOutside x1 1 400) = 0 then ((k_X6_tick_15 x1 401 0 u))
  else (((-1), u))
def k_X6_rowLength_2 (x0 : Int32) (x1 : Int32) : Nat → Int32 → Int32
  | 0, x2 => 0
  | n + 1, x2 =>
  if 16 ≤ x2 then (x2)
  else (if ((x0 >>> ((((x1 + x2) - (x1 + x2) / 16 * 16) : Int32) &&& 31)) &&& 1) = 1 then ((k_X6_rowLength_2 x0 x1 n (x2 + 1)))
  else (x2))
def f_X6_rowLength (x0 : Int32) (x1 : Int32) : Int32 :=
  (k_X6_rowLength_2 x0 x1 17 0)
def k_X6_middleOfLongestRow_6 (x0 : Int32) : Nat → Int32 → Int32 → Int32 → Int32
  | 0, x1, x2, x3 => 0
  | n + 1, x1, x2, x3 =>
  if 16 ≤ x3 then (((x1 + ((x2 - 1) / 2)) - (x1 + ((x2 - 1) / 2)) / 16 * 16))
  else (if (f_X6_rowLength x0 x3) ≤ x2 then ((k_X6_middleOfLongestRow_6 x0 n x1 x2 (x3 + 1)))
  else ((k_X6_middleOfLongestRow_6 x0 n x3 (f_X6_rowLength x0 x3) (x3 + 1))))
def f_X6_middleOfLongestRow (x0 : Int32) : Int32 :=
  (k_X6_middleOfLongestRow_6 x0 17 0 0 0)
def k_X6_tune_4  : Nat → Int32 → Int32 → cd_S → Int32 × cd_S
  | 0, x1, x2, u => (0, u)
  | n + 1, x1, x2, u =>
  if 16 ≤ x2 then (if x1 = 0 then (((-2), u))
  else (let r_3 := (f_X6_hears u 21 (f_X6_middleOfLongestRow x1) (f_X6_commandCheck 21 (f_X6_middleOfLongestRow x1)));
  if r_3.1 = 0 then (((f_X6_middleOfLongestRow x1), r_3.2))
  else (let r_5 := (f_X6_obey r_3.2 21 (f_X6_middleOfLongestRow x1));
  ((f_X6_middleOfLongestRow x1), r_5.2))))
  else (let r_6 := (f_X6_hears u 21 x2 (f_X6_commandCheck 21 x2));
  if r_6.1 = 0 then (((-4), r_6.2))
  else (let r_8 := (f_X6_obey r_6.2 21 x2);
  (k_X6_tune_4  n (x1 ||| (r_8.1 <<< ((x2 : Int32) &&& 31))) (x2 + 1) r_8.2)))
def f_X6_tune (u : cd_S) : Int32 × cd_S :=
  (k_X6_tune_4  17 0 0 u)
def f_X6_block (u : cd_S) (x1 : Int32) (x2 : Int32) : Int32 :=
  if (f_X3_has (u 1) x1) = 0 then ((-1))
  else (if (f_X6_isOutside x2 0 2) = 0 then (if x2 = 0 then ((f_X3_contentOf (u 1) x1))
  else (if x2 = 1 then ((f_X6_asNumber (f_X3_isTorn (u 1) x1)))
  else ((f_X3_groupOf (u 1) x1))))
  else ((-1)))
def f_X3_writtenAt (u : ob_S) (x1 : Int32) : Int32 :=
  if x1 < 0 then ((-4))
  else (if (u.1 3) ≤ x1 then ((-4))
  else (if 64 ≤ x1 then ((-4))
  else ((u.2 2 (Int32.toNatClampNeg x1)))))
def f_X6_latest (u : cd_S) (x1 : Int32) : Int32 :=
  if 0 ≤ x1 then ((f_X3_writtenAt (u 1) x1))
  else ((-1))
def f_X6_word (u : cd_S) (x1 : Int32) : Int32 :=
  if (-1) ≤ x1 then (if x1 = (-1) then ((f_X1_length 8 (u 3)))
  else ((f_X1_at 8 (u 3) x1)))
  else ((-1))
def f_X6_later (u : cd_S) (x1 : Int32) (x2 : Int32) : Int32 :=
  if x1 < (-1) then ((-1))
  else (if (f_X6_isOutside x2 0 2) = 0 then (if x1 = (-1) then ((f_X4_size (u 4)))
  else ((f_X4_tellOf (u 4) x1 x2)))
  else ((-1)))
def f_X3_groupSize (u : ob_S) : Int32 :=
  (u.1 5)
def f_X2_point (u : ob_S) : Int32 :=
  (u.1 2)
def k_X3_tornBlocks_4 (u : ob_S) : Nat → Int32 → Int32 → Int32
  | 0, x1, x2 => 0
  | n + 1, x1, x2 =>
  if (u.1 4) ≤ x2 then (x1)
  else ((k_X3_tornBlocks_4 u n (x1 + (f_X6_asNumber (f_X3_isTorn u x2))) (x2 + 1)))
def f_X3_tornBlocks (u : ob_S) : Int32 :=
  (k_X3_tornBlocks_4 u 65 0 0)
def f_X6_isStreaming (u : cd_S) : Int32 :=
  if ((u 0).1 12) = 5 then (1)
  else (if ((u 0).1 12) = 6 then (1)
  else (0))
def f_X5_isCounted (u : ob_S) : Int32 :=
  (u.1 3)
def f_X5_left (u : ob_S) : Int32 :=
  (u.1 2)
def k_X3_filledBlocks_4 (u : ob_S) : Nat → Int32 → Int32 → Int32
  | 0, x1, x2 => 0
  | n + 1, x1, x2 =>
  if (u.1 4) ≤ x2 then (x1)
  else (let y_2 : Int32 := (if (f_X3_contentOf u x2) = 65535 then 0 else 1);
  (k_X3_filledBlocks_4 u n (x1 + (f_X6_asNumber y_2)) (x2 + 1)))
def f_X3_filledBlocks (u : ob_S) : Int32 :=
  (k_X3_filledBlocks_4 u 65 0 0)
def f_X6_count (u : cd_S) (x1 : Int32) : Int32 :=
  if x1 = 0 then ((f_X3_size (u 1)))
  else (if x1 = 1 then ((f_X3_groupSize (u 1)))
  else (if x1 = 2 then (if (f_X6_isPowered u) = 0 then ((-4))
  else (((u 0).1 12)))
  else (if x1 = 3 then (((u 0).1 13))
  else (if x1 = 4 then ((f_X2_lines (u 7)))
  else (if x1 = 5 then ((f_X2_speed (u 7)))
  else (if x1 = 6 then ((f_X2_point (u 7)))
  else (if x1 = 7 then ((f_X6_asNumber ((u 0).1 16)))
  else (if x1 = 8 then (((u 0).1 14))
  else (if x1 = 9 then (((u 0).1 9))
  else (if x1 = 10 then ((f_X0_groupsLeft (u 5)))
  else (if x1 = 11 then ((f_X3_tornBlocks (u 1)))
  else (if x1 = 12 then (((u 0).1 10))
  else (if x1 = 13 then (((u 0).1 11))
  else (if x1 = 14 then ((f_X1_length 200 (u 2)))
  else (if x1 = 15 then (if (f_X6_isStreaming u) = 0 then ((-4))
  else (if (f_X3_has (u 1) (f_X5_next (u 6))) = 0 then ((-4))
  else ((f_X5_next (u 6)))))
  else (if x1 = 16 then (if (f_X6_isStreaming u) = 0 then ((-4))
  else (if (f_X5_isCounted (u 6)) = 0 then ((-4))
  else ((f_X5_left (u 6)))))
  else (if x1 = 17 then ((f_X3_filledBlocks (u 1)))
  else (if x1 = 18 then ((f_X6_asNumber (f_X2_isInWindow (u 7) ((u 0).1 11))))
  else ((-1))))))))))))))))))))
def f_X7_in (x0 : Int64) (x2 : Int64) (x4 : Int64) : Int32 :=
  if (lg_cmp x0 x2) < 0 then (0)
  else (if 0 < (lg_cmp x0 x4) then (0)
  else (1))
def f_X7_begins (u : ob_S) : ob_S :=
  let y_1 : Int32 := (if (u.1 11) ≤ 0 then 0 else 1);
  (ob_i (ob_i (ob_i (ob_i (ob_i (ob_i (ob_i (ob_i (ob_i (ob_i (ob_i (ob_i (ob_i (ob_i (ob_i (ob_i u 16 0) 17 0) 18 0) 19 0) 20 0) 21 y_1) 22 0) 23 0) 28 0) 29 0) 30 (-4)) 31 0) 32 0) 35 0) 36 (-4)) 37 0)
def k_X7_make_97 (x1 : Int32) : Nat → Int32 → ob_S → Int32 × ob_S
  | 0, x5, u => (0, u)
  | n + 1, x5, u =>
  if 64 ≤ x5 then (let r_6 := (f_X7_begins (ob_i u 15 0));
  (x1, r_6))
  else ((k_X7_make_97 x1 n (x5 + 1) (ob_a (ob_a u 9 (Int32.toNatClampNeg x5) 65535) 10 (Int32.toNatClampNeg x5) 0)))
def f_X7_make (u : ob_S) (x1 : Int32) (x2 : Int32) (x3 : Int32) (x4 : Int32) : Int32 × ob_S :=
  if (f_X7_in (Int32.toInt64 x1) 4 64) = 0 then (((-1), u))
  else (if (f_X7_in (Int32.toInt64 x2) 1 8) = 0 then (((-1), u))
  else (if (f_X7_in (Int32.toInt64 x3) 0 9) = 0 then (((-1), u))
  else (if (f_X7_in (Int32.toInt64 x4) 0 65535) = 0 then (((-1), u))
  else ((k_X7_make_97 x1 65 0 (ob_i (ob_i (ob_i (ob_i (ob_i (ob_i (ob_i (ob_i u 3 x1) 4 x2) 5 x3) 6 x4) 7 0) 8 0) 11 0) 13 0))))))
def k_X7_forgets_4 (x1 : Int32) : Nat → Int32 → Int32 → ob_S → ob_S
  | 0, x2, x3, u => u
  | n + 1, x2, x3, u =>
  if (u.1 13) ≤ x3 then ((ob_i u 13 x2))
  else (if (u.2 14 (Int32.toNatClampNeg x3)) = x1 then ((k_X7_forgets_4 x1 n x2 (x3 + 1) u))
  else ((k_X7_forgets_4 x1 n (x2 + 1) (x3 + 1) (ob_a u 14 (Int32.toNatClampNeg x2) (u.2 14 (Int32.toNatClampNeg x3))))))
def f_X7_forgets (u : ob_S) (x1 : Int32) : ob_S :=
  (k_X7_forgets_4 x1 65 0 0 u)
def f_X7_empties (u : ob_S) (x1 : Int32) (x2 : Int32) : ob_S :=
  let r_1 := (f_X7_forgets (ob_a (ob_a u 9 (Int32.toNatClampNeg x1) 65535) 10 (Int32.toNatClampNeg x1) x2) x1);
  r_1
def k_X7_groupEmpties_7 (x1 : Int32) (x2 : Int32) : Nat → Int32 → ob_S → ob_S
  | 0, x3, u => u
  | n + 1, x3, u =>
  if ((x1 + 1) * (u.1 4)) ≤ x3 then (u)
  else (if (u.1 3) ≤ x3 then (u)
  else (let r_3 := (f_X7_empties u x3 x2);
  (k_X7_groupEmpties_7 x1 x2 n (x3 + 1) r_3)))
def f_X7_groupEmpties (u : ob_S) (x1 : Int32) (x2 : Int32) : ob_S :=
  (k_X7_groupEmpties_7 x1 x2 65 (x1 * (u.1 4)) u)
def f_X7_groups (u : ob_S) : Int32 :=
  ((((u.1 3) + (u.1 4)) - 1) / (u.1 4))
def f_X7_cuts (u : ob_S) : ob_S :=
  if (u.1 23) ≤ 0 then (if (u.1 28) ≤ 0 then (u)
  else (if (u.1 29) ≤ 0 then (u)
  else (let r_4 := (f_X7_groupEmpties u (u.1 27) 1);
  r_4)))
  else (if (u.2 26 (Int32.toNatClampNeg 0)) ≤ 0 then (if (u.1 28) ≤ 0 then (u)
  else (if (u.1 29) ≤ 0 then (u)
  else (let r_8 := (f_X7_groupEmpties u (u.1 27) 1);
  r_8)))
  else (let r_9 := (f_X7_empties u (u.2 24 (Int32.toNatClampNeg 0)) 1);
  if (r_9.1 28) ≤ 0 then (r_9)
  else (if (r_9.1 29) ≤ 0 then (r_9)
  else (let r_12 := (f_X7_groupEmpties r_9 (r_9.1 27) 1);
  r_12))))
def f_X7_power (u : ob_S) (x1 : Int32) : Int32 × ob_S :=
  if (f_X7_in (Int32.toInt64 x1) 0 1) = 0 then (((-1), u))
  else (let y_2 : Int32 := (if x1 = 1 then 1 else 0);
  if (u.1 15) = y_2 then (((-2), u))
  else (if (u.1 15) = 0 then (let r_6 := (f_X7_begins u);
  let y_7 : Int32 := (if x1 = 1 then 1 else 0);
  (1, (ob_i r_6 15 y_7)))
  else (let r_9 := (f_X7_cuts u);
  let r_10 := (f_X7_begins r_9);
  let y_11 : Int32 := (if x1 = 1 then 1 else 0);
  (1, (ob_i r_10 15 y_11)))))
def f_X7_warm (u : ob_S) (x1 : Int32) : Int32 × ob_S :=
  if (f_X7_in (Int32.toInt64 x1) 0 15) = 0 then (((-1), u))
  else (((u.1 2), (ob_i u 2 x1)))
def f_X7_write (u : ob_S) (x1 : Int32) : Int32 × ob_S :=
  if (f_X7_in (Int32.toInt64 x1) 32 126) = 0 then (((-1), u))
  else (if (u.1 0) = 200 then (((-3), u))
  else ((((u.1 0) + 1), (ob_i (ob_a u 1 (Int32.toNatClampNeg (u.1 0)) x1) 0 ((u.1 0) + 1)))))
def f_X7_wipe (u : ob_S) : Int32 × ob_S :=
  ((u.1 0), (ob_i u 0 0))
def k_X7_checked_6 (x0 : Int32) : Nat → Int32 → Int32 → Int32
  | 0, x2, x3 => 0
  | n + 1, x2, x3 =>
  if x3 < 0 then (x2)
  else ((k_X7_checked_6 x0 n (((x2 <<< ((1 : Int32) &&& 31)) &&& 127) ^^^ (9 * (((x0 >>> ((x3 : Int32) &&& 31)) &&& 1) ^^^ (x2 >>> ((6 : Int32) &&& 31))))) (x3 + (-1))))
def f_X7_checked (x0 : Int32) (x1 : Int32) : Int32 :=
  (k_X7_checked_6 x0 23 0 (x1 - 1))
def f_X7_check (u : ob_S) (x1 : Int32) (x2 : Int32) : Int32 :=
  if (f_X7_in (Int32.toInt64 x1) 0 63) = 0 then ((-1))
  else (if (f_X7_in (Int32.toInt64 x2) 0 65535) = 0 then ((-1))
  else ((f_X7_checked ((65536 * x1) + x2) 22)))
def f_X7_checkOf (u : ob_S) (x1 : Int32) : Int32 :=
  if (f_X7_in (Int32.toInt64 x1) 0 65535) = 0 then ((-1))
  else ((f_X7_checked x1 16))
def f_X7_isInWindow (u : ob_S) : Int32 :=
  let y_1 : Int32 := (if ((((((u.1 20) - 3) - (5 * (u.1 19))) - (u.1 2)) + 48) - (((((u.1 20) - 3) - (5 * (u.1 19))) - (u.1 2)) + 48) / 16 * 16) ≤ 8 then ((((((u.1 20) - 3) - (5 * (u.1 19))) - (u.1 2)) + 48) - (((((u.1 20) - 3) - (5 * (u.1 19))) - (u.1 2)) + 48) / 16 * 16) else (16 - ((((((u.1 20) - 3) - (5 * (u.1 19))) - (u.1 2)) + 48) - (((((u.1 20) - 3) - (5 * (u.1 19))) - (u.1 2)) + 48) / 16 * 16)));
  if (7 - (2 * (u.1 19))) < y_1 then (0)
  else (1)
def f_X7_isStarred (x0 : Int32) : Int32 :=
  if x0 = 6 then (1)
  else (if x0 = 17 then (1)
  else (if x0 = 18 then (1)
  else (if (f_X7_in (Int32.toInt64 x0) 21 25) = 0 then (if x0 = 32 then (1)
  else (if x0 = 33 then (1)
  else (if x0 = 38 then (1)
  else (0))))
  else (1))))
def f_X7_isOne (u : ob_S) (x1 : Int32) : Int32 :=
  if x1 = 0 then (1)
  else (if x1 = 1 then (if (u.1 16) = 0 then (1)
  else (0))
  else (if x1 = 2 then (if (u.1 16) = 1 then (1)
  else (0))
  else (if x1 = 3 then (if (u.1 16) = 2 then (1)
  else (if (u.1 16) = 3 then (1)
  else (0)))
  else (if x1 = 7 then (if (u.1 16) = 3 then (1)
  else (if (u.1 16) = 4 then (1)
  else (0)))
  else (if x1 = 12 then (if (u.1 16) = 5 then (1)
  else (if (u.1 16) = 6 then (1)
  else (0)))
  else (if x1 = 13 then (if (u.1 16) < 3 then (0)
  else (1))
  else (if x1 = 42 then (if (u.1 16) = 4 then (1)
  else (0))
  else (if (f_X7_isStarred x1) = 0 then (0)
  else (if (u.1 16) = 4 then (1)
  else (0))))))))))
def f_X7_noting (u : ob_S) (x1 : Int32) : Int32 × ob_S :=
  ((-2), (ob_i u 22 ((u.1 22) ||| x1)))
def f_X7_switches (u : ob_S) (x1 : Int32) (x2 : Int32) : ob_S :=
  if 3 < x1 then ((ob_i u 22 ((u.1 22) ||| 32)))
  else (if 2 < x2 then ((ob_i u 22 ((u.1 22) ||| 32)))
  else (if x1 ≤ 1 then ((ob_i (ob_i u 19 x1) 18 x2))
  else (if x2 = 0 then ((ob_i u 22 ((u.1 22) ||| 32)))
  else ((ob_i (ob_i u 19 x1) 18 x2)))))
def f_X7_chooses (u : ob_S) (x1 : Int32) : Int32 × ob_S :=
  if (u.1 16) = 4 then (let y_5 : Int32 := (if x1 = (u.1 17) then 4 else 3);
  ((-4), (ob_i u 16 y_5)))
  else (let y_2 : Int32 := (if x1 = (u.1 17) then 4 else 3);
  if x1 = (u.1 17) then ((1, (ob_i u 16 y_2)))
  else (((-4), (ob_i u 16 y_2))))
def f_X7_stops (u : ob_S) : Int32 × ob_S :=
  let y_1 : Int32 := (if (u.1 16) = 6 then (u.1 23) else 0);
  let y_3 : Int32 := (if y_1 ≤ 0 then 4 else 7);
  (y_1, (ob_i u 16 y_3))
def f_X7_status (u : ob_S) : Int32 × ob_S :=
  let y_1 : Int32 := (if (u.1 21) = 0 then 0 else 128);
  ((((256 * (u.1 16)) + y_1) + (u.1 22)), (ob_i u 22 0))
def f_X7_first (u : ob_S) (x1 : Int32) (x2 : Int32) : Int32 × ob_S :=
  if x1 = 0 then (let r_2 := (f_X7_cuts u);
  let r_3 := (f_X7_begins r_2);
  (0, r_3))
  else (if x1 = 1 then (let y_5 : Int32 := (if ((u.1 31) + 1) ≤ (u.1 5) then 0 else 1);
  (y_5, (ob_i (ob_i u 31 ((u.1 31) + 1)) 16 y_5)))
  else (if x1 = 2 then (((u.1 6), (ob_i u 16 2)))
  else (if x1 = 3 then ((((u.1 17) + 1), (ob_i (ob_i u 17 ((u.1 17) + 1)) 16 3)))
  else (if x1 = 6 then (let r_10 := (f_X7_switches u (x2 / 4) (x2 - x2 / 4 * 4));
  (((4 * (r_10.1 19)) + (r_10.1 18)), r_10))
  else (if x1 = 7 then (let r_12 := (f_X7_chooses u x2);
  (r_12.1, r_12.2))
  else (if x1 = 12 then (let r_14 := (f_X7_stops u);
  (r_14.1, r_14.2))
  else (if x2 = (u.1 17) then (let r_16 := (f_X7_status u);
  (r_16.1, r_16.2))
  else (((-4), u)))))))))
def f_X7_streamsFrom (u : ob_S) (x1 : Int32) (x2 : Int32) : Int32 × ob_S :=
  if x2 < (u.1 3) then (let y_2 : Int32 := (if x1 = 17 then 1 else (if x1 = 24 then 1 else 0));
  let y_5 : Int32 := (if 20 ≤ x1 then 6 else 5);
  let y_7 : Int32 := (if y_2 = 0 then (if (u.1 30) ≤ 0 then (-4) else (u.1 30)) else 1);
  let y_10 : Int32 := (if y_5 = 6 then 0 else (u.1 8));
  (0, (ob_i (ob_i (ob_i (ob_i (ob_i (ob_i u 16 y_5) 35 x2) 36 y_7) 30 (-4)) 37 0) 8 y_10)))
  else (let r_12 := (f_X7_noting u 4);
  (r_12.1, r_12.2))
def f_X7_streams (u : ob_S) (x1 : Int32) (x2 : Int32) : Int32 × ob_S :=
  if x1 = 21 then (if (f_X7_isInWindow (ob_i u 20 (x2 - x2 / 16 * 16))) = 0 then ((0, (ob_i u 20 (x2 - x2 / 16 * 16))))
  else ((1, (ob_i u 20 (x2 - x2 / 16 * 16)))))
  else (if x1 = 22 then (((u.1 8), u))
  else (if x1 = 23 then ((x2, (ob_i u 30 x2)))
  else (let r_5 := (f_X7_streamsFrom u x1 x2);
  (r_5.1, r_5.2))))
def f_X7_endsAt (u : ob_S) (x1 : Int32) : Int32 × ob_S :=
  let y_1 : Int32 := (if (u.1 32) = 1 then 1 else 0);
  if x1 < (u.1 3) then (if y_1 = 0 then (let r_5 := (f_X7_noting (ob_i u 32 0) 8);
  (r_5.1, r_5.2))
  else (if (u.1 33) ≤ x1 then ((0, (ob_i (ob_i (ob_i u 32 0) 34 x1) 32 2)))
  else (let r_7 := (f_X7_noting (ob_i u 32 0) 8);
  (r_7.1, r_7.2))))
  else (let r_8 := (f_X7_noting (ob_i u 32 0) 4);
  (r_8.1, r_8.2))
def f_X7_erasesGroups (u : ob_S) (x1 : Int32) (x2 : Int32) : Int32 × ob_S :=
  (x2, (ob_i (ob_i (ob_i (ob_i u 27 x1) 28 x2) 29 0) 16 7))
def k_X7_isWord_21 (u : ob_S) : Nat → Int32 → Int32 → Int32
  | 0, x3, x4 => 0
  | n + 1, x3, x4 =>
  if (u.1 11) ≤ x4 then (x3)
  else (if x3 = 0 then (x3)
  else (let y_3 : Int32 := (if (u.2 1 (Int32.toNatClampNeg x4)) = (u.2 12 (Int32.toNatClampNeg x4)) then 1 else 0);
  (k_X7_isWord_21 u n y_3 (x4 + 1))))
def f_X7_isWord (u : ob_S) (x1 : Int32) (x2 : Int32) : Int32 :=
  (k_X7_isWord_21 u 9 (f_X7_in (Int32.toInt64 ((u.1 0) - (u.1 11))) (Int32.toInt64 x1) (Int32.toInt64 x2)) 0)
def k_X7_sets_36 (x1 : Int32) : Nat → Int32 → ob_S → Int32 × ob_S
  | 0, x2, u => (0, u)
  | n + 1, x2, u =>
  if (u.1 11) ≤ x2 then ((1, u))
  else ((k_X7_sets_36 x1 n (x2 + 1) (ob_a u 12 (Int32.toNatClampNeg x2) (u.2 1 (Int32.toNatClampNeg (x1 + x2))))))
def f_X7_sets (u : ob_S) : Int32 × ob_S :=
  if (u.1 21) = 0 then (if (f_X7_isWord u 1 8) = 0 then ((0, u))
  else ((k_X7_sets_36 (u.1 11) 9 0 (ob_i u 11 ((u.1 0) - (u.1 11))))))
  else ((0, u))
def f_X7_locks (u : ob_S) (x1 : Int32) : Int32 × ob_S :=
  if x1 = 0 then (if (u.1 21) = 0 then (let y_3 : Int32 := (if (u.1 21) = 0 then 0 else 1);
  let r_7 := (f_X7_noting (ob_i u 21 y_3) 16);
  (r_7.1, r_7.2))
  else (let y_8 : Int32 := (if (f_X7_isWord u 0 0) = 0 then 0 else 1);
  let y_10 : Int32 := (if (u.1 21) = 0 then 0 else (if y_8 = 0 then 1 else 0));
  if y_8 = 0 then (let r_14 := (f_X7_noting (ob_i u 21 y_10) 16);
  (r_14.1, r_14.2))
  else ((1, (ob_i u 21 y_10)))))
  else (if x1 = 1 then (let r_16 := (f_X7_sets u);
  let y_17 : Int32 := (if (r_16.2.1 21) = 0 then (if r_16.1 = 0 then 0 else (if x1 = 5 then 1 else 0)) else 1);
  if r_16.1 = 0 then (let r_22 := (f_X7_noting (ob_i r_16.2 21 y_17) 16);
  (r_22.1, r_22.2))
  else ((1, (ob_i r_16.2 21 y_17))))
  else (if x1 = 2 then (if (u.1 21) = 0 then (if (u.1 11) ≤ 0 then (let y_33 : Int32 := (if (u.1 21) = 0 then 0 else 1);
  let y_36 : Int32 := (u.1 11);
  let r_39 := (f_X7_noting (ob_i (ob_i u 21 y_33) 11 y_36) 16);
  (r_39.1, r_39.2))
  else (let y_40 : Int32 := (if (f_X7_isWord u 0 0) = 0 then 0 else 1);
  let y_42 : Int32 := (if (u.1 21) = 0 then (if y_40 = 0 then 0 else (if x1 = 4 then 1 else 0)) else 1);
  let y_46 : Int32 := (if y_40 = 0 then (u.1 11) else (if x1 = 2 then 0 else (u.1 11)));
  if y_40 = 0 then (let r_50 := (f_X7_noting (ob_i (ob_i u 21 y_42) 11 y_46) 16);
  (r_50.1, r_50.2))
  else ((1, (ob_i (ob_i u 21 y_42) 11 y_46)))))
  else (let y_25 : Int32 := (if (u.1 21) = 0 then 0 else 1);
  let y_28 : Int32 := (u.1 11);
  let r_31 := (f_X7_noting (ob_i (ob_i u 21 y_25) 11 y_28) 16);
  (r_31.1, r_31.2)))
  else (if x1 = 4 then (if (u.1 21) = 0 then (if (u.1 11) ≤ 0 then (let y_61 : Int32 := (if (u.1 21) = 0 then 0 else 1);
  let y_64 : Int32 := (u.1 11);
  let r_67 := (f_X7_noting (ob_i (ob_i u 21 y_61) 11 y_64) 16);
  (r_67.1, r_67.2))
  else (let y_68 : Int32 := (if (f_X7_isWord u 0 0) = 0 then 0 else 1);
  let y_70 : Int32 := (if (u.1 21) = 0 then (if y_68 = 0 then 0 else (if x1 = 4 then 1 else 0)) else 1);
  let y_74 : Int32 := (if y_68 = 0 then (u.1 11) else (if x1 = 2 then 0 else (u.1 11)));
  if y_68 = 0 then (let r_78 := (f_X7_noting (ob_i (ob_i u 21 y_70) 11 y_74) 16);
  (r_78.1, r_78.2))
  else ((1, (ob_i (ob_i u 21 y_70) 11 y_74)))))
  else (let y_53 : Int32 := (if (u.1 21) = 0 then 0 else 1);
  let y_56 : Int32 := (u.1 11);
  let r_59 := (f_X7_noting (ob_i (ob_i u 21 y_53) 11 y_56) 16);
  (r_59.1, r_59.2)))
  else (if x1 = 5 then (let r_80 := (f_X7_sets u);
  let y_81 : Int32 := (if (r_80.2.1 21) = 0 then (if r_80.1 = 0 then 0 else (if x1 = 5 then 1 else 0)) else 1);
  if r_80.1 = 0 then (let r_86 := (f_X7_noting (ob_i r_80.2 21 y_81) 16);
  (r_86.1, r_86.2))
  else ((1, (ob_i r_80.2 21 y_81))))
  else (if x1 = 8 then (if (u.1 21) = 0 then (let r_90 := (f_X7_noting u 16);
  (r_90.1, r_90.2))
  else (let r_91 := (f_X7_erasesGroups (ob_i (ob_i u 11 0) 21 0) 0 (f_X7_groups (ob_i (ob_i u 11 0) 21 0)));
  (r_91.1, r_91.2)))
  else (let r_93 := (f_X7_noting u 16);
  (r_93.1, r_93.2)))))))
def f_X7_erases (u : ob_S) (x1 : Int32) (x2 : Int32) : Int32 × ob_S :=
  if x1 = 32 then (if x2 < (u.1 3) then ((0, (ob_i (ob_i u 33 x2) 32 1)))
  else (let r_3 := (f_X7_noting u 4);
  (r_3.1, r_3.2)))
  else (if x1 = 33 then (let r_5 := (f_X7_endsAt u x2);
  (r_5.1, r_5.2))
  else (if x1 = 38 then (if (u.1 32) = 2 then (let r_8 := (f_X7_erasesGroups (ob_i u 32 0) ((u.1 33) / (u.1 4)) ((((u.1 34) / (u.1 4)) - ((u.1 33) / (u.1 4))) + 1));
  (r_8.1, r_8.2))
  else (let r_9 := (f_X7_noting u 8);
  (r_9.1, r_9.2)))
  else (let r_10 := (f_X7_locks u x2);
  (r_10.1, r_10.2))))
def f_X7_send (u : ob_S) (x1 : Int32) (x2 : Int32) (x3 : Int32) : Int32 × ob_S :=
  if (f_X7_in (Int32.toInt64 x1) 0 63) = 0 then (((-1), u))
  else (if (f_X7_in (Int32.toInt64 x2) 0 65535) = 0 then (((-1), u))
  else (if (f_X7_in (Int32.toInt64 x3) 0 127) = 0 then (((-1), u))
  else (if (u.1 15) = 0 then (((-4), u))
  else (if x3 = (f_X7_check u x1 x2) then (if (f_X7_isOne u x1) = 0 then (((-4), (ob_i u 22 ((u.1 22) ||| 2))))
  else (if (u.1 21) = 0 then (if (u.1 32) ≤ 0 then (if 16 ≤ x1 then (if 32 ≤ x1 then (let r_11 := (f_X7_erases u x1 x2);
  (r_11.1, r_11.2))
  else (let r_12 := (f_X7_streams u x1 x2);
  (r_12.1, r_12.2)))
  else (let r_13 := (f_X7_first u x1 x2);
  (r_13.1, r_13.2)))
  else (if x1 = 13 then (if 16 ≤ x1 then (if 32 ≤ x1 then (let r_17 := (f_X7_erases u x1 x2);
  (r_17.1, r_17.2))
  else (let r_18 := (f_X7_streams u x1 x2);
  (r_18.1, r_18.2)))
  else (let r_19 := (f_X7_first u x1 x2);
  (r_19.1, r_19.2)))
  else (if x1 = 33 then (if (u.1 32) = 1 then (if 16 ≤ x1 then (if 32 ≤ x1 then (let r_41 := (f_X7_erases u x1 x2);
  (r_41.1, r_41.2))
  else (let r_42 := (f_X7_streams u x1 x2);
  (r_42.1, r_42.2)))
  else (let r_43 := (f_X7_first u x1 x2);
  (r_43.1, r_43.2)))
  else (if x1 = 38 then (if (u.1 32) = 2 then (if 16 ≤ x1 then (if 32 ≤ x1 then (let r_53 := (f_X7_erases u x1 x2);
  (r_53.1, r_53.2))
  else (let r_54 := (f_X7_streams u x1 x2);
  (r_54.1, r_54.2)))
  else (let r_55 := (f_X7_first u x1 x2);
  (r_55.1, r_55.2)))
  else (if 16 ≤ x1 then (if 32 ≤ x1 then (let r_58 := (f_X7_erases (ob_i (ob_i u 32 0) 22 ((u.1 22) ||| 8)) x1 x2);
  (r_58.1, r_58.2))
  else (let r_59 := (f_X7_streams (ob_i (ob_i u 32 0) 22 ((u.1 22) ||| 8)) x1 x2);
  (r_59.1, r_59.2)))
  else (let r_60 := (f_X7_first (ob_i (ob_i u 32 0) 22 ((u.1 22) ||| 8)) x1 x2);
  (r_60.1, r_60.2))))
  else (if 16 ≤ x1 then (if 32 ≤ x1 then (let r_47 := (f_X7_erases (ob_i (ob_i u 32 0) 22 ((u.1 22) ||| 8)) x1 x2);
  (r_47.1, r_47.2))
  else (let r_48 := (f_X7_streams (ob_i (ob_i u 32 0) 22 ((u.1 22) ||| 8)) x1 x2);
  (r_48.1, r_48.2)))
  else (let r_49 := (f_X7_first (ob_i (ob_i u 32 0) 22 ((u.1 22) ||| 8)) x1 x2);
  (r_49.1, r_49.2)))))
  else (if x1 = 38 then (if (u.1 32) = 2 then (if 16 ≤ x1 then (if 32 ≤ x1 then (let r_30 := (f_X7_erases u x1 x2);
  (r_30.1, r_30.2))
  else (let r_31 := (f_X7_streams u x1 x2);
  (r_31.1, r_31.2)))
  else (let r_32 := (f_X7_first u x1 x2);
  (r_32.1, r_32.2)))
  else (if 16 ≤ x1 then (if 32 ≤ x1 then (let r_35 := (f_X7_erases (ob_i (ob_i u 32 0) 22 ((u.1 22) ||| 8)) x1 x2);
  (r_35.1, r_35.2))
  else (let r_36 := (f_X7_streams (ob_i (ob_i u 32 0) 22 ((u.1 22) ||| 8)) x1 x2);
  (r_36.1, r_36.2)))
  else (let r_37 := (f_X7_first (ob_i (ob_i u 32 0) 22 ((u.1 22) ||| 8)) x1 x2);
  (r_37.1, r_37.2))))
  else (if 16 ≤ x1 then (if 32 ≤ x1 then (let r_24 := (f_X7_erases (ob_i (ob_i u 32 0) 22 ((u.1 22) ||| 8)) x1 x2);
  (r_24.1, r_24.2))
  else (let r_25 := (f_X7_streams (ob_i (ob_i u 32 0) 22 ((u.1 22) ||| 8)) x1 x2);
  (r_25.1, r_25.2)))
  else (let r_26 := (f_X7_first (ob_i (ob_i u 32 0) 22 ((u.1 22) ||| 8)) x1 x2);
  (r_26.1, r_26.2)))))))
  else (if (f_X7_isStarred x1) = 0 then (if (u.1 32) ≤ 0 then (if 16 ≤ x1 then (if 32 ≤ x1 then (let r_65 := (f_X7_erases u x1 x2);
  (r_65.1, r_65.2))
  else (let r_66 := (f_X7_streams u x1 x2);
  (r_66.1, r_66.2)))
  else (let r_67 := (f_X7_first u x1 x2);
  (r_67.1, r_67.2)))
  else (if x1 = 13 then (if 16 ≤ x1 then (if 32 ≤ x1 then (let r_71 := (f_X7_erases u x1 x2);
  (r_71.1, r_71.2))
  else (let r_72 := (f_X7_streams u x1 x2);
  (r_72.1, r_72.2)))
  else (let r_73 := (f_X7_first u x1 x2);
  (r_73.1, r_73.2)))
  else (if x1 = 33 then (if (u.1 32) = 1 then (if 16 ≤ x1 then (if 32 ≤ x1 then (let r_95 := (f_X7_erases u x1 x2);
  (r_95.1, r_95.2))
  else (let r_96 := (f_X7_streams u x1 x2);
  (r_96.1, r_96.2)))
  else (let r_97 := (f_X7_first u x1 x2);
  (r_97.1, r_97.2)))
  else (if x1 = 38 then (if (u.1 32) = 2 then (if 16 ≤ x1 then (if 32 ≤ x1 then (let r_107 := (f_X7_erases u x1 x2);
  (r_107.1, r_107.2))
  else (let r_108 := (f_X7_streams u x1 x2);
  (r_108.1, r_108.2)))
  else (let r_109 := (f_X7_first u x1 x2);
  (r_109.1, r_109.2)))
  else (if 16 ≤ x1 then (if 32 ≤ x1 then (let r_112 := (f_X7_erases (ob_i (ob_i u 32 0) 22 ((u.1 22) ||| 8)) x1 x2);
  (r_112.1, r_112.2))
  else (let r_113 := (f_X7_streams (ob_i (ob_i u 32 0) 22 ((u.1 22) ||| 8)) x1 x2);
  (r_113.1, r_113.2)))
  else (let r_114 := (f_X7_first (ob_i (ob_i u 32 0) 22 ((u.1 22) ||| 8)) x1 x2);
  (r_114.1, r_114.2))))
  else (if 16 ≤ x1 then (if 32 ≤ x1 then (let r_101 := (f_X7_erases (ob_i (ob_i u 32 0) 22 ((u.1 22) ||| 8)) x1 x2);
  (r_101.1, r_101.2))
  else (let r_102 := (f_X7_streams (ob_i (ob_i u 32 0) 22 ((u.1 22) ||| 8)) x1 x2);
  (r_102.1, r_102.2)))
  else (let r_103 := (f_X7_first (ob_i (ob_i u 32 0) 22 ((u.1 22) ||| 8)) x1 x2);
  (r_103.1, r_103.2)))))
  else (if x1 = 38 then (if (u.1 32) = 2 then (if 16 ≤ x1 then (if 32 ≤ x1 then (let r_84 := (f_X7_erases u x1 x2);
  (r_84.1, r_84.2))
  else (let r_85 := (f_X7_streams u x1 x2);
  (r_85.1, r_85.2)))
  else (let r_86 := (f_X7_first u x1 x2);
  (r_86.1, r_86.2)))
  else (if 16 ≤ x1 then (if 32 ≤ x1 then (let r_89 := (f_X7_erases (ob_i (ob_i u 32 0) 22 ((u.1 22) ||| 8)) x1 x2);
  (r_89.1, r_89.2))
  else (let r_90 := (f_X7_streams (ob_i (ob_i u 32 0) 22 ((u.1 22) ||| 8)) x1 x2);
  (r_90.1, r_90.2)))
  else (let r_91 := (f_X7_first (ob_i (ob_i u 32 0) 22 ((u.1 22) ||| 8)) x1 x2);
  (r_91.1, r_91.2))))
  else (if 16 ≤ x1 then (if 32 ≤ x1 then (let r_78 := (f_X7_erases (ob_i (ob_i u 32 0) 22 ((u.1 22) ||| 8)) x1 x2);
  (r_78.1, r_78.2))
  else (let r_79 := (f_X7_streams (ob_i (ob_i u 32 0) 22 ((u.1 22) ||| 8)) x1 x2);
  (r_79.1, r_79.2)))
  else (let r_80 := (f_X7_first (ob_i (ob_i u 32 0) 22 ((u.1 22) ||| 8)) x1 x2);
  (r_80.1, r_80.2)))))))
  else (((-4), (ob_i u 22 ((u.1 22) ||| 2)))))))
  else (((-4), (ob_i u 22 ((u.1 22) ||| 1))))))))
def f_X7_tell (u : ob_S) (x1 : Int32) (x2 : Int32) : Int32 × ob_S :=
  if (f_X7_in (Int32.toInt64 x1) 0 63) = 0 then (((-1), u))
  else (if (f_X7_in (Int32.toInt64 x2) 0 65535) = 0 then (((-1), u))
  else (let r_3 := (f_X7_send u x1 x2 (f_X7_check u x1 x2));
  (r_3.1, r_3.2)))
def f_X7_give (u : ob_S) (x1 : Int32) (x2 : Int32) : Int32 × ob_S :=
  if (f_X7_in (Int32.toInt64 x1) 0 65535) = 0 then (((-1), u))
  else (if (f_X7_in (Int32.toInt64 x2) 0 127) = 0 then (((-1), u))
  else (if (u.1 15) = 0 then (((-2), u))
  else (if (u.1 16) = 6 then (if (u.1 37) = 0 then (if (u.1 36) = 0 then (((-2), u))
  else (if (u.1 35) < (u.1 3) then (if (u.1 23) = 2 then (((-3), u))
  else (if (f_X7_isInWindow u) = 0 then ((0, (ob_i (ob_i u 22 ((u.1 22) ||| 64)) 37 1)))
  else (if x2 = (f_X7_checkOf u x1) then (let y_11 : Int32 := (if (u.1 36) = (-4) then (-4) else ((u.1 36) - 1));
  let y_13 : Int32 := (if y_11 = 0 then 7 else 6);
  (1, (ob_i (ob_i (ob_i (ob_i (ob_a (ob_a (ob_a u 24 (Int32.toNatClampNeg (u.1 23)) (u.1 35)) 25 (Int32.toNatClampNeg (u.1 23)) x1) 26 (Int32.toNatClampNeg (u.1 23)) 0) 23 ((u.1 23) + 1)) 35 ((u.1 35) + 1)) 36 y_11) 16 y_13)))
  else ((0, (ob_i (ob_i u 22 ((u.1 22) ||| 64)) 37 1))))))
  else (let r_15 := (f_X7_noting u 4);
  (r_15.1, r_15.2))))
  else (((-2), u)))
  else (((-2), u)))))
def f_X7_get (u : ob_S) : Int32 × ob_S :=
  if (u.1 15) = 0 then (((-2), u))
  else (if (u.1 16) = 5 then (if (f_X7_isInWindow u) = 0 then (((-4), u))
  else (if (u.2 10 (Int32.toNatClampNeg (u.1 35))) = 1 then (((-4), u))
  else (let y_5 : Int32 := (if (u.1 36) = (-4) then (-4) else ((u.1 36) - 1));
  let y_7 : Int32 := (if y_5 = 0 then 4 else (if ((u.1 35) + 1) = (u.1 3) then 4 else 5));
  ((u.2 9 (Int32.toNatClampNeg (u.1 35))), (ob_i (ob_i (ob_i u 35 ((u.1 35) + 1)) 36 y_5) 16 y_7)))))
  else (((-2), u)))
def k_X7_writes_80 (x1 : Int32) : Nat → Int32 → ob_S → ob_S
  | 0, x2, u => u
  | n + 1, x2, u =>
  if x2 ≤ 0 then ((ob_a (ob_a (ob_a (ob_i (ob_i (ob_i (ob_a u 14 (Int32.toNatClampNeg 0) x1) 13 ((u.1 13) + 1)) 8 ((u.1 8) + 1)) 23 ((u.1 23) - 1)) 24 (Int32.toNatClampNeg 0) (u.2 24 (Int32.toNatClampNeg 1))) 25 (Int32.toNatClampNeg 0) (u.2 25 (Int32.toNatClampNeg 1))) 26 (Int32.toNatClampNeg 0) (u.2 26 (Int32.toNatClampNeg 1))))
  else ((k_X7_writes_80 x1 n (x2 + (-1)) (ob_a u 14 (Int32.toNatClampNeg x2) (u.2 14 (Int32.toNatClampNeg (x2 - 1))))))
def f_X7_writes (u : ob_S) : ob_S :=
  let y_1 : Int32 := (if (u.1 18) = 0 then 4 else (if (u.1 18) = 1 then 2 else 1));
  if y_1 ≤ ((u.2 26 (Int32.toNatClampNeg 0)) + 1) then (let r_5 := (f_X7_forgets (ob_a u 26 (Int32.toNatClampNeg 0) ((u.2 26 (Int32.toNatClampNeg 0)) + 1)) (u.2 24 (Int32.toNatClampNeg 0)));
  (k_X7_writes_80 (u.2 24 (Int32.toNatClampNeg 0)) 64 (r_5.1 13) (ob_a (ob_a r_5 9 (Int32.toNatClampNeg (u.2 24 (Int32.toNatClampNeg 0))) (r_5.2 25 (Int32.toNatClampNeg 0))) 10 (Int32.toNatClampNeg (u.2 24 (Int32.toNatClampNeg 0))) 0)))
  else ((ob_a u 26 (Int32.toNatClampNeg 0) ((u.2 26 (Int32.toNatClampNeg 0)) + 1)))
def f_X7_oneTick (u : ob_S) : ob_S :=
  if (u.1 15) = 0 then ((ob_i u 7 ((u.1 7) + 1)))
  else (if (u.1 16) = 6 then (if (u.1 23) ≤ 0 then (if (u.1 28) ≤ 0 then (let y_5 : Int32 := (if (u.1 16) = 7 then (if (u.1 23) = 0 then (if (u.1 28) = 0 then 4 else (u.1 16)) else (u.1 16)) else (u.1 16));
  (ob_i (ob_i u 7 ((u.1 7) + 1)) 16 y_5))
  else (if ((u.1 29) + 1) = 2 then (let r_14 := (f_X7_groupEmpties (ob_i (ob_i u 7 ((u.1 7) + 1)) 29 ((u.1 29) + 1)) (u.1 27) 0);
  let y_15 : Int32 := (if (r_14.1 16) = 7 then (if (r_14.1 23) = 0 then (if ((r_14.1 28) - 1) = 0 then 4 else (r_14.1 16)) else (r_14.1 16)) else (r_14.1 16));
  (ob_i (ob_i (ob_i (ob_i r_14 27 ((r_14.1 27) + 1)) 28 ((r_14.1 28) - 1)) 29 0) 16 y_15))
  else (let y_10 : Int32 := (if (u.1 16) = 7 then (if (u.1 23) = 0 then (if (u.1 28) = 0 then 4 else (u.1 16)) else (u.1 16)) else (u.1 16));
  (ob_i (ob_i (ob_i u 7 ((u.1 7) + 1)) 29 ((u.1 29) + 1)) 16 y_10))))
  else (let r_19 := (f_X7_writes (ob_i u 7 ((u.1 7) + 1)));
  let y_20 : Int32 := (if (r_19.1 16) = 7 then (if (r_19.1 23) = 0 then (if (r_19.1 28) = 0 then 4 else (r_19.1 16)) else (r_19.1 16)) else (r_19.1 16));
  (ob_i r_19 16 y_20)))
  else (if (u.1 16) = 7 then (if (u.1 23) ≤ 0 then (if (u.1 28) ≤ 0 then (let y_27 : Int32 := (if (u.1 16) = 7 then (if (u.1 23) = 0 then (if (u.1 28) = 0 then 4 else (u.1 16)) else (u.1 16)) else (u.1 16));
  (ob_i (ob_i u 7 ((u.1 7) + 1)) 16 y_27))
  else (if ((u.1 29) + 1) = 2 then (let r_36 := (f_X7_groupEmpties (ob_i (ob_i u 7 ((u.1 7) + 1)) 29 ((u.1 29) + 1)) (u.1 27) 0);
  let y_37 : Int32 := (if (r_36.1 16) = 7 then (if (r_36.1 23) = 0 then (if ((r_36.1 28) - 1) = 0 then 4 else (r_36.1 16)) else (r_36.1 16)) else (r_36.1 16));
  (ob_i (ob_i (ob_i (ob_i r_36 27 ((r_36.1 27) + 1)) 28 ((r_36.1 28) - 1)) 29 0) 16 y_37))
  else (let y_32 : Int32 := (if (u.1 16) = 7 then (if (u.1 23) = 0 then (if (u.1 28) = 0 then 4 else (u.1 16)) else (u.1 16)) else (u.1 16));
  (ob_i (ob_i (ob_i u 7 ((u.1 7) + 1)) 29 ((u.1 29) + 1)) 16 y_32))))
  else (let r_41 := (f_X7_writes (ob_i u 7 ((u.1 7) + 1)));
  let y_42 : Int32 := (if (r_41.1 16) = 7 then (if (r_41.1 23) = 0 then (if (r_41.1 28) = 0 then 4 else (r_41.1 16)) else (r_41.1 16)) else (r_41.1 16));
  (ob_i r_41 16 y_42)))
  else ((ob_i u 7 ((u.1 7) + 1)))))
def k_X7_tick_16 (x1 : Int32) : Nat → Int32 → ob_S → Int32 × ob_S
  | 0, x2, u => (0, u)
  | n + 1, x2, u =>
  if x1 ≤ x2 then (((u.1 7), u))
  else (let r_3 := (f_X7_oneTick u);
  (k_X7_tick_16 x1 n (x2 + 1) r_3))
def f_X7_tick (u : ob_S) (x1 : Int32) : Int32 × ob_S :=
  if (f_X7_in (Int32.toInt64 x1) 1 400) = 0 then (((-1), u))
  else ((k_X7_tick_16 x1 401 0 u))
def k_X7_tune_63 (x1 x4 : Int32) : Nat → Int32 → Int32
  | 0, x5 => x5
  | n + 1, x5 =>
  if 16 ≤ x5 then (x5)
  else (if ((x1 >>> (((x4 + x5) - (x4 + x5) / 16 * 16) &&& 31)) &&& 1) = 1 then (k_X7_tune_63 x1 x4 n (x5 + 1))
  else (x5))
def k_X7_tune_53 (x1 : Int32) : Nat → Int32 → Int32 → Int32 → ob_S → Int32 × ob_S
  | 0, x2, x3, x4, u => (0, u)
  | n + 1, x2, x3, x4, u =>
  if 16 ≤ x4 then (let r_4 := (f_X7_tell u 21 ((x2 + ((x3 - 1) / 2)) - (x2 + ((x3 - 1) / 2)) / 16 * 16));
  (((x2 + ((x3 - 1) / 2)) - (x2 + ((x3 - 1) / 2)) / 16 * 16), r_4.2))
  else (let y_5 : Int32 := (if (k_X7_tune_63 x1 x4 17 0) ≤ x3 then x2 else x4);
  let y_7 : Int32 := (if (k_X7_tune_63 x1 x4 17 0) ≤ x3 then x3 else (k_X7_tune_63 x1 x4 17 0));
  (k_X7_tune_53 x1 n y_5 y_7 (x4 + 1) u))
def k_X7_tune_4  : Nat → Int32 → Int32 → ob_S → Int32 × ob_S
  | 0, x1, x2, u => (0, u)
  | n + 1, x1, x2, u =>
  if 16 ≤ x2 then (if x1 = 0 then (((-2), u))
  else ((k_X7_tune_53 x1 17 0 0 0 u)))
  else (let r_9 := (f_X7_tell u 21 x2);
  if r_9.1 = (-4) then (((-4), r_9.2))
  else ((k_X7_tune_4  n (x1 ||| (r_9.1 <<< ((x2 : Int32) &&& 31))) (x2 + 1) r_9.2)))
def f_X7_tune (u : ob_S) : Int32 × ob_S :=
  (k_X7_tune_4  17 0 0 u)
def f_X7_block (u : ob_S) (x1 : Int32) (x2 : Int32) : Int32 :=
  if (f_X7_in (Int32.toInt64 x1) 0 (Int32.toInt64 ((u.1 3) - 1))) = 0 then ((-1))
  else (if (f_X7_in (Int32.toInt64 x2) 0 2) = 0 then ((-1))
  else (if x2 = 0 then ((u.2 9 (Int32.toNatClampNeg x1)))
  else (if x2 = 1 then ((u.2 10 (Int32.toNatClampNeg x1)))
  else ((x1 / (u.1 4))))))
def f_X7_latest (u : ob_S) (x1 : Int32) : Int32 :=
  if 0 ≤ x1 then (if (u.1 13) ≤ x1 then ((-4))
  else ((u.2 14 (Int32.toNatClampNeg x1))))
  else ((-1))
def f_X7_word (u : ob_S) (x1 : Int32) : Int32 :=
  if (-1) ≤ x1 then (if 0 ≤ x1 then (if (u.1 11) ≤ x1 then ((-4))
  else ((u.2 12 (Int32.toNatClampNeg x1))))
  else ((u.1 11)))
  else ((-1))
def f_X7_later (u : ob_S) (x1 : Int32) (x2 : Int32) : Int32 :=
  if x1 < (-1) then ((-1))
  else (if (f_X7_in (Int32.toInt64 x2) 0 2) = 0 then ((-1))
  else (if x1 < 0 then (if 0 ≤ x1 then ((-4))
  else ((u.1 23)))
  else (if x1 < (u.1 23) then (if x2 = 0 then ((u.2 24 (Int32.toNatClampNeg x1)))
  else (if x2 = 1 then ((u.2 25 (Int32.toNatClampNeg x1)))
  else ((u.2 26 (Int32.toNatClampNeg x1)))))
  else (if 0 ≤ x1 then ((-4))
  else ((u.1 23))))))
def k_X7_blocksThat_4 (u : ob_S) (x1 : Int32) : Nat → Int32 → Int32 → Int32
  | 0, x2, x3 => 0
  | n + 1, x2, x3 =>
  if (u.1 3) ≤ x3 then (x2)
  else (if x1 = 0 then (let y_3 : Int32 := (if (u.2 9 (Int32.toNatClampNeg x3)) = 65535 then 0 else 1);
  (k_X7_blocksThat_4 u x1 n (x2 + y_3) (x3 + 1)))
  else ((k_X7_blocksThat_4 u x1 n (x2 + (u.2 10 (Int32.toNatClampNeg x3))) (x3 + 1))))
def f_X7_blocksThat (u : ob_S) (x1 : Int32) : Int32 :=
  (k_X7_blocksThat_4 u x1 65 0 0)
def f_X7_countPower (u : ob_S) (x1 : Int32) : Int32 :=
  if x1 = 3 then ((u.1 17))
  else (if x1 = 4 then ((u.1 18))
  else (if x1 = 5 then ((u.1 19))
  else (if x1 = 6 then ((u.1 20))
  else (if x1 = 7 then (if (u.1 15) = 0 then (0)
  else (if (u.1 21) = 0 then (0)
  else (1)))
  else (if x1 = 8 then ((u.1 22))
  else ((u.1 28)))))))
def f_X7_count (u : ob_S) (x1 : Int32) : Int32 :=
  let y_1 : Int32 := (if (u.1 15) = 0 then 0 else (if (u.1 16) = 5 then 1 else (if (u.1 16) = 6 then 1 else 0)));
  if x1 = 0 then ((u.1 3))
  else (if x1 = 1 then ((u.1 4))
  else (if x1 = 2 then (if (u.1 15) = 0 then ((-4))
  else ((u.1 16)))
  else (if x1 = 3 then ((f_X7_countPower u x1))
  else (if x1 = 4 then ((f_X7_countPower u x1))
  else (if x1 = 5 then ((f_X7_countPower u x1))
  else (if x1 = 6 then ((f_X7_countPower u x1))
  else (if x1 = 7 then ((f_X7_countPower u x1))
  else (if x1 = 8 then ((f_X7_countPower u x1))
  else (if x1 = 9 then ((u.1 8))
  else (if x1 = 10 then ((f_X7_countPower u x1))
  else (if x1 = 11 then ((f_X7_blocksThat u 1))
  else (if x1 = 12 then ((u.1 7))
  else (if x1 = 13 then ((u.1 2))
  else (if x1 = 14 then ((u.1 0))
  else (if x1 = 15 then (if y_1 = 0 then ((-4))
  else (if (u.1 3) ≤ (u.1 35) then ((-4))
  else ((u.1 35))))
  else (if x1 = 16 then (if y_1 = 0 then ((-4))
  else ((u.1 36)))
  else (if x1 = 17 then ((f_X7_blocksThat u 0))
  else (if x1 = 18 then (if (f_X7_isInWindow u) = 0 then (0)
  else (1))
  else ((-1))))))))))))))))))))

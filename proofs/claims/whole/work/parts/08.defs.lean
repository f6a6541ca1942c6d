def ushr (x y : Int32) : Int32 := (x.toUInt32 >>> (y.toUInt32 &&& Int32.toUInt32 31)).toInt32
def r_J9_floorMod_7cf53 (p1 p2 : Int32) : Int32 := (if 0 ≤ (p1 ^^^ p2) then (p1 - p1 / p2 * p2) else (if (p1 - p1 / p2 * p2) = 0 then (p1 - p1 / p2 * p2) else ((p1 - p1 / p2 * p2) + p2)))
def r_J9_min_7cf53 (p1 p2 : Int32) : Int32 := (if p2 < p1 then p2 else p1)
def e_X0_requireWithin (p1 p2 p3 : Int32) : Nat := (if p1 < p2 then 1 else (if p1 ≤ p3 then 0 else 1))
def r_X0_bitOf (p1 : Int32) : Int32 := (1 <<< (p1 &&& 31))
def r_X0_has (p1 p2 : Int32) : Int32 := (if (p1 &&& (r_X0_bitOf p2)) = 0 then 0 else 1)
def r_X0_changed (p1 p2 p3 : Int32) : Int32 := (if p3 = 0 then (p1 &&& ((r_X0_bitOf p2) ^^^ (-1))) else (p1 ||| (r_X0_bitOf p2)))
def r_X0_placeOf (p1 p2 : Int32) : Int32 := ((p1 * 10) + p2)
def e_X0_requireDevice (u : SX) (p1 : Int32) : Nat := (if p1 < 0 then 3 else (if p1 < (u.1 10) then 0 else 3))
def e_X0_requireNotice (u : SX) (p1 : Int32) : Nat := (if p1 < 0 then 3 else (if p1 < (u.1 16) then 0 else 3))
def e_X0_requireRoomForNotice (u : SX)  : Nat := (if (u.1 16) < 120 then 0 else 2)
def r_X0_localTime (u : SX) (p1 : Int32) : Int32 := (r_J9_floorMod_7cf53 ((u.1 17) + (u.2 5 (ix p1))) 1440)
def r_X0_isInQuietHours (u : SX) (p1 : Int32) : Int32 := (if (r_J9_floorMod_7cf53 ((u.2 7 (ix p1)) - (u.2 6 (ix p1))) 1440) ≤ (r_J9_floorMod_7cf53 ((r_X0_localTime u p1) - (u.2 6 (ix p1))) 1440) then 0 else 1)
def r_X0_spentToday (u : SX) (p1 : Int32) : Int32 := (if (u.2 8 (ix p1)) = ((u.1 17) / 1440) then (u.2 9 (ix p1)) else 0)
def r_X0_isStanding (u : SX) (p1 : Int32) : Int32 := (if (u.2 12 (ix p1)) ≤ (u.1 17) then 0 else 1)
def r_X0_waitsNow (u : SX) (p1 : Int32) : Int32 := (if (r_X0_isStanding u p1) = 0 then 0 else (u.2 13 (ix p1)))
def s_X0_withdraw (u : SX) (p1 : Int32) : SX := (pG u 12 (ix p1) (u.1 17))
def b_X0_countWaiting_4 (u : SX) (p1 : Int32) (k4 : Nat) (x4 : Int32) : Int32 := (if (r_X0_has (r_X0_waitsNow u (nI k4)) p1) = 0 then x4 else (x4 + 1))
def l_X0_countWaiting_4 (u : SX) (p1 : Int32) : Nat → Int32
  | 0 => 0
  | k4 + 1 => b_X0_countWaiting_4 u p1 k4 (l_X0_countWaiting_4 u p1 k4)
def r_X0_countWaiting (u : SX) (p1 : Int32) : Int32 := (l_X0_countWaiting_4 u p1 (ix (u.1 16)))
def b_X0_spendQuota_2 (u : SX) (p1 : Int32) (k2 : Nat) (x2 : SX) : SX := (if (r_X0_has p1 (nI k2)) = 0 then x2 else (pG (pG x2 9 (ix (nI k2)) ((r_X0_spentToday x2 (nI k2)) + 1)) 8 (ix (nI k2)) ((x2.1 17) / 1440)))
def l_X0_spendQuota_2 (u : SX) (p1 : Int32) : Nat → SX
  | 0 => u
  | k2 + 1 => b_X0_spendQuota_2 u p1 k2 (l_X0_spendQuota_2 u p1 k2)
def s_X0_spendQuota (u : SX) (p1 : Int32) : SX := (l_X0_spendQuota_2 u p1 (ix (u.1 10)))

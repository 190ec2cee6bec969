def md_tab : Nat → Int32 := fun j => ([31, 28, 31, 30, 31, 30, 31, 31, 30, 31, 30, 31] : List Int32).getD j 0
def f_X0_isCalendar (p0 : Int32) : Int32 := if p0 < 0 then 0 else (if 2 < p0 then 0 else 1)
def f_X0_isYear (p0 p1 : Int32) : Int32 := if (f_X0_isCalendar p0) = 0 then 0 else (if p1 < 1 then 0 else (if 2699 < p1 then 0 else 1))
def f_X0_months (p0 : Int32) : Int32 := if p0 = 2 then 13 else 12
def f_X0_isMonth (p0 p1 p2 : Int32) : Int32 := if (f_X0_isYear p0 p1) = 0 then 0 else (if p2 < 1 then 0 else (if (f_X0_months p0) < p2 then 0 else 1))
def f_X0_isLeap (p0 p1 : Int32) : Int32 := if p0 = 2 then 0 else (if (p1 - p1 / 4 * 4) = 0 then (if p0 = 1 then 1 else (if (p1 - p1 / 100 * 100) = 0 then (if (p1 - p1 / 400 * 400) = 0 then 1 else 0) else 1)) else 0)
def f_X0_monthDays (p0 p1 p2 : Int32) : Int32 := if p0 = 2 then (if p2 = 13 then 5 else 30) else (if p2 < 1 then 0 else (if p2 ≤ 12 then (if p2 = 2 then (if (f_X0_isLeap p0 p1) = 0 then (md_tab (p2 - 1).toNatClampNeg) else 29) else (md_tab (p2 - 1).toNatClampNeg)) else 0))
def f_X0_yearStart (p0 p1 : Int32) : Int32 := if p0 = 0 then ((((365 * (p1 - 1)) + ((p1 - 1) / 4)) - ((p1 - 1) / 100)) + ((p1 - 1) / 400)) else (if p0 = 1 then (((365 * (p1 - 1)) + ((p1 - 1) / 4)) - 2) else (365 * (p1 - 1)))
def f_X5_isDay (p0 : Int32) : Int32 := if p0 < 0 then 0 else (if 985999 < p0 then 0 else 1)
def ms_C (c y : Int32) : Nat → Int32
  | 0 => f_X0_yearStart c y
  | k + 1 => ms_C c y k + f_X0_monthDays c y (nI (k + 1))
def f_X0_dayOf (p0 p1 p2 p3 : Int32) : Int32 := if (f_X0_isMonth p0 p1 p2) = 0 then (-1) else (if p3 < 1 then (-1) else (if p3 ≤ (f_X0_monthDays p0 p1 p2) then (if (f_X5_isDay (((ms_C p0 p1 (p2.toNatClampNeg - 1)) + p3) - 1)) = 0 then (-1) else (((ms_C p0 p1 (p2.toNatClampNeg - 1)) + p3) - 1)) else (-1)))
def yl_C (c d : Int32) : Nat → Int32 → Int32
  | 0, y => y
  | n + 1, y => if 2699 < y then y else if d < f_X0_yearStart c (y + 1) then y else yl_C c d n (y + 1)
def f_X0_yearOf (c d : Int32) : Int32 := if 2699 < yl_C c d 2701 (d / 366 + 1) then -1 else yl_C c d 2701 (d / 366 + 1)
def ml_C (c y : Int32) : Nat → Int32 → Nat → Int32 × Nat
  | 0, r, K => (r, K)
  | n + 1, r, K => if f_X0_months c ≤ nI K then (r, K) else if r < f_X0_monthDays c y (nI K) then (r, K) else ml_C c y n (r - f_X0_monthDays c y (nI K)) (K + 1)
def pe_C (w : Int32) (q : Int32 × Nat) : Int32 := if w = 1 then nI q.2 else q.1 + 1
def f_X0_partOf (p0 p1 p2 : Int32) : Int32 := if (f_X0_isCalendar p0) = 0 then (-1) else (if (f_X5_isDay p1) = 0 then (-1) else (if p2 < 0 then (-1) else (if p2 ≤ 2 then (if p2 = 0 then (f_X0_yearOf p0 p1) else (if (f_X0_yearOf p0 p1) = (-1) then (f_X0_yearOf p0 p1) else (pe_C p2 (ml_C p0 (f_X0_yearOf p0 p1) 14 (p1 - (f_X0_yearStart p0 (f_X0_yearOf p0 p1))) 1)))) else (-1))))
def f_X0_yearsBehind (p0 p1 p2 : Int32) : Int32 := if (f_X0_partOf p0 p1 0) = (-1) then (-1) else (if p2 < 0 then (-1) else (if p2 ≤ 100 then (if (f_X0_partOf p0 p1 1) = 2 then (if (f_X0_partOf p0 p1 2) ≤ (f_X0_monthDays p0 ((f_X0_partOf p0 p1 0) + p2) (f_X0_partOf p0 p1 1)) then (f_X0_dayOf p0 ((f_X0_partOf p0 p1 0) + p2) (f_X0_partOf p0 p1 1) (f_X0_partOf p0 p1 2)) else (f_X0_dayOf p0 ((f_X0_partOf p0 p1 0) + p2) 3 1)) else (f_X0_dayOf p0 ((f_X0_partOf p0 p1 0) + p2) (f_X0_partOf p0 p1 1) (f_X0_partOf p0 p1 2))) else (-1)))
def f_X5_day (p0 p1 p2 p3 : Int32) : Int32 := f_X0_dayOf p0 p1 p2 p3
def f_X5_date (p0 p1 p2 : Int32) : Int32 := f_X0_partOf p0 p1 p2
def f_X5_years (p0 p1 p2 : Int32) : Int32 := f_X0_yearsBehind p0 p1 p2
def f_X5_isRowOfDays (p0 p1 : Int32) : Int32 := if (f_X5_isDay p0) = 0 then 0 else (if (f_X5_isDay p1) = 0 then 0 else (if p1 < p0 then 0 else 1))
def f_X6_isLeap (p0 p1 : Int32) : Int32 := if p0 = 1 then (if (p1 - p1 / 4 * 4) = 0 then 1 else 0) else (if (p1 - p1 / 4 * 4) = 0 then (if (p1 - p1 / 100 * 100) = 0 then (if (p1 - p1 / 400 * 400) = 0 then 1 else 0) else 1) else 0)
def f_X6_lengthOf (p0 p1 p2 : Int32) : Int32 := if p0 = 2 then (if p2 = 13 then 5 else 30) else (if p2 = 2 then (if (f_X6_isLeap p0 p1) = 0 then 28 else 29) else (if p2 = 4 then 30 else (if p2 = 6 then 30 else (if p2 = 9 then 30 else (if p2 = 11 then 30 else 31)))))
def f_X6_monthsOf (p0 : Int32) : Int32 := if p0 = 2 then 13 else 12
def f_X6_yearFrom (p0 p1 : Int32) : Int32 := if p0 = 2 then (365 * (p1 - 1)) else (if p0 = 1 then (((365 * (p1 - 1)) + ((p1 - 1) / 4)) - 2) else ((((365 * (p1 - 1)) + ((p1 - 1) / 4)) - ((p1 - 1) / 100)) + ((p1 - 1) / 400)))
def f_X6_isDay (p0 : Int32) : Int32 := if p0 < 0 then 0 else (if 986000 ≤ p0 then 0 else 1)
def ds_M (c y a : Int32) : Nat → Int32
  | 0 => a
  | k + 1 => ds_M c y a k + f_X6_lengthOf c y (nI (k + 1))
def f_X6_dayOf (p0 p1 p2 p3 : Int32) : Int32 := if p0 < 0 then 2000000 else (if 2 < p0 then 2000000 else (if p1 < 1 then 2000000 else (if 2699 < p1 then 2000000 else (if p2 < 1 then 2000000 else (if (f_X6_monthsOf p0) < p2 then 2000000 else (if p3 < 1 then 2000000 else (if p3 ≤ (f_X6_lengthOf p0 p1 p2) then (ds_M p0 p1 (((f_X6_yearFrom p0 p1) + p3) - 1) (p2.toNatClampNeg - 1)) else 2000000)))))))
def f_X6_day (p0 p1 p2 p3 : Int32) : Int32 := if (f_X6_isDay (f_X6_dayOf p0 p1 p2 p3)) = 0 then (-1) else (f_X6_dayOf p0 p1 p2 p3)
def yl_M (c d : Int32) : Nat → Int32 → Int32
  | 0, y => y
  | n + 1, y => if d < f_X6_yearFrom c (y + 1) then y else yl_M c d n (y + 1)
def fy_M (c d : Int32) : Int32 := yl_M c d 2703 (if 1 < d / 366 then d / 366 else 1)
def ml_M (c y : Int32) : Nat → Int32 → Int32 → Int32 × Int32
  | 0, r, k => (r, k)
  | n + 1, r, k => if r < f_X6_lengthOf c y k then (r, k) else ml_M c y n (r - f_X6_lengthOf c y k) (k + 1)
def mq_M (c d : Int32) : Int32 × Int32 := ml_M c (fy_M c d) ((d - f_X6_yearFrom c (fy_M c d)).toNatClampNeg + 1) (d - f_X6_yearFrom c (fy_M c d)) 1
def fm_M (c d : Int32) : Int32 := (mq_M c d).2
def fd_M (c d : Int32) : Int32 := (mq_M c d).1 + 1
def fo_M (c d : Int32) : Int32 := if c < 0 then 0 else (if 2 < c then 0 else (if (f_X6_isDay d) = 0 then 0 else (if fy_M c d ≤ 2699 then 1 else 0)))
def f_X6_date (p0 p1 p2 : Int32) : Int32 := if (fo_M p0 p1) = 0 then (-1) else (if p2 = 0 then (fy_M p0 p1) else (if p2 = 1 then (fm_M p0 p1) else (if p2 = 2 then (fd_M p0 p1) else (-1))))
def f_X6_behind (p0 p1 p2 : Int32) : Int32 := if (fo_M p0 p1) = 0 then (-1) else (if (f_X6_dayOf p0 ((fy_M p0 p1) + p2) (fm_M p0 p1) (fd_M p0 p1)) = 2000000 then (if 2 ≤ p0 then (if (f_X6_isDay (f_X6_dayOf p0 ((fy_M p0 p1) + p2) (fm_M p0 p1) (fd_M p0 p1))) = 0 then (-1) else (f_X6_dayOf p0 ((fy_M p0 p1) + p2) (fm_M p0 p1) (fd_M p0 p1))) else (if (fm_M p0 p1) = 2 then (if (fd_M p0 p1) = 29 then (if (f_X6_isDay (f_X6_dayOf p0 ((fy_M p0 p1) + p2) 3 1)) = 0 then (-1) else (f_X6_dayOf p0 ((fy_M p0 p1) + p2) 3 1)) else (if (f_X6_isDay (f_X6_dayOf p0 ((fy_M p0 p1) + p2) (fm_M p0 p1) (fd_M p0 p1))) = 0 then (-1) else (f_X6_dayOf p0 ((fy_M p0 p1) + p2) (fm_M p0 p1) (fd_M p0 p1)))) else (if (f_X6_isDay (f_X6_dayOf p0 ((fy_M p0 p1) + p2) (fm_M p0 p1) (fd_M p0 p1))) = 0 then (-1) else (f_X6_dayOf p0 ((fy_M p0 p1) + p2) (fm_M p0 p1) (fd_M p0 p1))))) else (if (f_X6_isDay (f_X6_dayOf p0 ((fy_M p0 p1) + p2) (fm_M p0 p1) (fd_M p0 p1))) = 0 then (-1) else (f_X6_dayOf p0 ((fy_M p0 p1) + p2) (fm_M p0 p1) (fd_M p0 p1))))
def f_X6_years (p0 p1 p2 : Int32) : Int32 := if p2 < 0 then (-1) else (if p2 ≤ 100 then (f_X6_behind p0 p1 p2) else (-1))
def f_X6_king (p0 p1 p2 : Int32) : Int32 := if p0 < 0 then (-1) else (if 2 < p0 then (-1) else (if (f_X6_isDay p1) = 0 then (-1) else (if (f_X6_isDay p2) = 0 then (-1) else (if p2 < p1 then (-1) else 0))))

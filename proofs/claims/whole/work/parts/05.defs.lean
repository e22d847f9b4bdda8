def rParty (row : Int32) (k : Int32) : Int32 :=
  if k < 0 then
    (-1)
  else
    if k < 6 then
      (((row.toUInt32 >>> (((3 : Int32) * k).toUInt32 &&& Int32.toUInt32 31)).toInt32) &&& (7 : Int32)) - (1 : Int32)
    else
      (-1)
def rSizeL (row : Int32) : Nat → Nat → Int32
  | 0, i => nI 6
  | ki + 1, i => if ((row.toUInt32 >>> (((3 : Int32) * (nI i)).toUInt32 &&& Int32.toUInt32 31)).toInt32) = 0 then
      nI i
    else
      rSizeL row ki (i + 1)
def rSize (row : Int32) : Int32 :=
  rSizeL row 6 0
def rFirst (row : Int32) : Int32 :=
  rParty row 0
def rLast (row : Int32) : Int32 :=
  rParty row ((rSize row) - (1 : Int32))
def rRest (row : Int32) : Int32 :=
  (row.toUInt32 >>> ((3 : Int32).toUInt32 &&& Int32.toUInt32 31)).toInt32
def rWithFirst (x : Int32) (row : Int32) : Int32 :=
  (row <<< ((3 : Int32) &&& 31)) ||| (x + (1 : Int32))
def rWithLast (row : Int32) (x : Int32) : Int32 :=
  row ||| ((x + (1 : Int32)) <<< (((3 : Int32) * (rSize row)) &&& 31))
def rHasL (row : Int32) (x : Int32) : Nat → Nat → Int32
  | 0, i => 0
  | ki + 1, i => if x < 0 then
      rHasL row x ki (i + 1)
    else
      if (rParty row (nI i)) = x then
        1
      else
        rHasL row x ki (i + 1)
def rHas (row : Int32) (x : Int32) : Int32 :=
  rHasL row x 6 0
def bitCountF (x : Int32) : Int32 :=
  (((((((x - (((x.toUInt32 >>> ((1 : Int32).toUInt32 &&& Int32.toUInt32 31)).toInt32) &&& (1431655765 : Int32))) &&& (858993459 : Int32)) + ((((x - (((x.toUInt32 >>> ((1 : Int32).toUInt32 &&& Int32.toUInt32 31)).toInt32) &&& (1431655765 : Int32))).toUInt32 >>> ((2 : Int32).toUInt32 &&& Int32.toUInt32 31)).toInt32) &&& (858993459 : Int32))) + (((((x - (((x.toUInt32 >>> ((1 : Int32).toUInt32 &&& Int32.toUInt32 31)).toInt32) &&& (1431655765 : Int32))) &&& (858993459 : Int32)) + ((((x - (((x.toUInt32 >>> ((1 : Int32).toUInt32 &&& Int32.toUInt32 31)).toInt32) &&& (1431655765 : Int32))).toUInt32 >>> ((2 : Int32).toUInt32 &&& Int32.toUInt32 31)).toInt32) &&& (858993459 : Int32))).toUInt32 >>> ((4 : Int32).toUInt32 &&& Int32.toUInt32 31)).toInt32)) &&& (252645135 : Int32)) + (((((((x - (((x.toUInt32 >>> ((1 : Int32).toUInt32 &&& Int32.toUInt32 31)).toInt32) &&& (1431655765 : Int32))) &&& (858993459 : Int32)) + ((((x - (((x.toUInt32 >>> ((1 : Int32).toUInt32 &&& Int32.toUInt32 31)).toInt32) &&& (1431655765 : Int32))).toUInt32 >>> ((2 : Int32).toUInt32 &&& Int32.toUInt32 31)).toInt32) &&& (858993459 : Int32))) + (((((x - (((x.toUInt32 >>> ((1 : Int32).toUInt32 &&& Int32.toUInt32 31)).toInt32) &&& (1431655765 : Int32))) &&& (858993459 : Int32)) + ((((x - (((x.toUInt32 >>> ((1 : Int32).toUInt32 &&& Int32.toUInt32 31)).toInt32) &&& (1431655765 : Int32))).toUInt32 >>> ((2 : Int32).toUInt32 &&& Int32.toUInt32 31)).toInt32) &&& (858993459 : Int32))).toUInt32 >>> ((4 : Int32).toUInt32 &&& Int32.toUInt32 31)).toInt32)) &&& (252645135 : Int32)).toUInt32 >>> ((8 : Int32).toUInt32 &&& Int32.toUInt32 31)).toInt32)) + ((((((((x - (((x.toUInt32 >>> ((1 : Int32).toUInt32 &&& Int32.toUInt32 31)).toInt32) &&& (1431655765 : Int32))) &&& (858993459 : Int32)) + ((((x - (((x.toUInt32 >>> ((1 : Int32).toUInt32 &&& Int32.toUInt32 31)).toInt32) &&& (1431655765 : Int32))).toUInt32 >>> ((2 : Int32).toUInt32 &&& Int32.toUInt32 31)).toInt32) &&& (858993459 : Int32))) + (((((x - (((x.toUInt32 >>> ((1 : Int32).toUInt32 &&& Int32.toUInt32 31)).toInt32) &&& (1431655765 : Int32))) &&& (858993459 : Int32)) + ((((x - (((x.toUInt32 >>> ((1 : Int32).toUInt32 &&& Int32.toUInt32 31)).toInt32) &&& (1431655765 : Int32))).toUInt32 >>> ((2 : Int32).toUInt32 &&& Int32.toUInt32 31)).toInt32) &&& (858993459 : Int32))).toUInt32 >>> ((4 : Int32).toUInt32 &&& Int32.toUInt32 31)).toInt32)) &&& (252645135 : Int32)) + (((((((x - (((x.toUInt32 >>> ((1 : Int32).toUInt32 &&& Int32.toUInt32 31)).toInt32) &&& (1431655765 : Int32))) &&& (858993459 : Int32)) + ((((x - (((x.toUInt32 >>> ((1 : Int32).toUInt32 &&& Int32.toUInt32 31)).toInt32) &&& (1431655765 : Int32))).toUInt32 >>> ((2 : Int32).toUInt32 &&& Int32.toUInt32 31)).toInt32) &&& (858993459 : Int32))) + (((((x - (((x.toUInt32 >>> ((1 : Int32).toUInt32 &&& Int32.toUInt32 31)).toInt32) &&& (1431655765 : Int32))) &&& (858993459 : Int32)) + ((((x - (((x.toUInt32 >>> ((1 : Int32).toUInt32 &&& Int32.toUInt32 31)).toInt32) &&& (1431655765 : Int32))).toUInt32 >>> ((2 : Int32).toUInt32 &&& Int32.toUInt32 31)).toInt32) &&& (858993459 : Int32))).toUInt32 >>> ((4 : Int32).toUInt32 &&& Int32.toUInt32 31)).toInt32)) &&& (252645135 : Int32)).toUInt32 >>> ((8 : Int32).toUInt32 &&& Int32.toUInt32 31)).toInt32)).toUInt32 >>> ((16 : Int32).toUInt32 &&& Int32.toUInt32 31)).toInt32)) &&& (63 : Int32)
def gHolds (F : FT) (a : AT) (x : Int32) : Int32 :=
  if x < 0 then
    0
  else
    if (F 20) ≤ x then
      0
    else
      1
def gJoin (F : FT) (a : AT) (x : Int32) (y : Int32) : AT :=
  if (gHolds F a x) = 0 then
    a
  else
    if (gHolds F a y) = 0 then
      a
    else
      updA a 22 (upd (a 22) x.toNatClampNeg (((a 22) x.toNatClampNeg) ||| ((1 : Int32) <<< (y &&& 31))))
def gJoins (F : FT) (a : AT) (x : Int32) (y : Int32) : Int32 :=
  if (gHolds F a x) = 0 then
    0
  else
    if (gHolds F a y) = 0 then
      0
    else
      if ((((a 22) x.toNatClampNeg) >>> (y &&& 31)) &&& (1 : Int32)) = 1 then
        1
      else
        0
def gIsPathL (F : FT) (a : AT) (P : Nat) (row : Int32) : Nat → Nat → Int32 → Int32
  | 0, i, seen => if (nI (szN row)) ≤ 0 then
      0
    else
      1
  | ki + 1, i, seen => if (gHolds F a (rParty row (nI i))) = 0 then
      0
    else
      if ((seen >>> ((rParty row (nI i)) &&& 31)) &&& (1 : Int32)) = 0 then
        if (nI i) ≤ 0 then
          gIsPathL F a P row ki (i + 1) (seen ||| ((1 : Int32) <<< ((rParty row (nI i)) &&& 31)))
        else
          if (gJoins F a (rParty row ((nI i) - (1 : Int32))) (rParty row (nI i))) = 0 then
            0
          else
            gIsPathL F a P row ki (i + 1) (seen ||| ((1 : Int32) <<< ((rParty row (nI i)) &&& 31)))
      else
        0
def gIsPath (F : FT) (a : AT) (P : Nat) (row : Int32) : Int32 :=
  gIsPathL F a P row (szN row) 0 0
def gReachI (F : FT) (a : AT) (P : Nat) (x : Int32) : Nat → Nat → Int32 → Int32
  | 0, qq, v => v
  | kqq + 1, qq, v => if ((v >>> ((nI qq) &&& 31)) &&& (1 : Int32)) = 1 then
      gReachI F a P x kqq (qq + 1) (v ||| ((a 22) qq))
    else
      gReachI F a P x kqq (qq + 1) v
def gReachL (F : FT) (a : AT) (P : Nat) (x : Int32) : Nat → Nat → Int32 → Int32
  | 0, rr, u => u
  | krr + 1, rr, u => gReachL F a P x krr (rr + 1) (gReachI F a P x P 0 u)
def gReach (F : FT) (a : AT) (P : Nat) (x : Int32) : Int32 :=
  gReachL F a P x (P - 1) 1 ((1 : Int32) <<< (x &&& 31))
def gIsStrongL (F : FT) (a : AT) (P : Nat) : Nat → Nat → Int32
  | 0, i => 1
  | ki + 1, i => if (gReach F a P (nI i)) = (F 21) then
      gIsStrongL F a P ki (i + 1)
    else
      0
def gIsStrong (F : FT) (a : AT) (P : Nat) : Int32 :=
  gIsStrongL F a P P 0
def gEndsI (F : FT) (a : AT) (P : Nat) (x : Int32) : Nat → Nat → Int32 → Int32
  | 0, qq, v => v
  | kqq + 1, qq, v => if (((a 22) qq) &&& v) = 0 then
      gEndsI F a P x kqq (qq + 1) (v &&& (((1 : Int32) <<< ((nI qq) &&& 31)) ^^^ ((-1) : Int32)))
    else
      gEndsI F a P x kqq (qq + 1) v
def gEndsL (F : FT) (a : AT) (P : Nat) (x : Int32) : Nat → Nat → Int32 → Int32
  | 0, rr, u => u
  | krr + 1, rr, u => gEndsL F a P x krr (rr + 1) (gEndsI F a P x P 0 u)
def gEnds (F : FT) (a : AT) (P : Nat) (x : Int32) : Int32 :=
  if (gEndsL F a P x P 0 x) = 0 then
    1
  else
    0
def gFewestL (F : FT) (a : AT) (P : Nat) (E : Nat) : Nat → Nat → Int32 → Int32
  | 0, qq, best => best
  | kqq + 1, qq, best => if (bitCountF best) ≤ (bitCountF (nI qq)) then
      gFewestL F a P E kqq (qq + 1) best
    else
      if (gEnds F a P ((nI E) &&& ((nI qq) ^^^ ((-1) : Int32)))) = 0 then
        gFewestL F a P E kqq (qq + 1) best
      else
        gFewestL F a P E kqq (qq + 1) (nI qq)
def gFewest (F : FT) (a : AT) (P : Nat) (E : Nat) : Int32 :=
  gFewestL F a P E E 0 (nI E)
def isPartyF (F : FT) (a : AT) (x : Int32) : Int32 :=
  if x < 0 then
    0
  else
    if (F 0) ≤ x then
      0
    else
      1
def isArcF (F : FT) (a : AT) (x : Int32) : Int32 :=
  if x < 0 then
    0
  else
    if (F 8) ≤ x then
      0
    else
      1
def isLeaderF (F : FT) (a : AT) (x : Int32) : Int32 :=
  if (isPartyF F a x) = 0 then
    0
  else
    if (((F 10) >>> (x &&& 31)) &&& (1 : Int32)) = 1 then
      1
    else
      0
def conformsF (F : FT) (a : AT) (x : Int32) : Int32 :=
  if (((F 14) >>> (x &&& 31)) &&& (1 : Int32)) = 0 then
    1
  else
    0
def isOverF (F : FT) (a : AT) : Int32 :=
  if (F 13) < ((F 12) + (((2 : Int32) * (F 11)) * (F 1))) then
    0
  else
    1
def isInTimeF (F : FT) (a : AT) (row : Int32) : Int32 :=
  if ((F 12) + (((F 11) + ((rSize row) - (1 : Int32))) * (F 1))) ≤ (F 13) then
    0
  else
    1
def hashkeyF (F : FT) (a : AT) (x : Int32) (y : Int32) : Int32 :=
  if (isArcF F a x) = 0 then
    0
  else
    if (isPartyF F a y) = 0 then
      0
    else
      (a 7) (((x * (6 : Int32)) + y).toNatClampNeg)
def isUnlockedF (F : FT) (a : AT) (x : Int32) (y : Int32) : Int32 :=
  if ((((a 6) x.toNatClampNeg) >>> (y &&& 31)) &&& (1 : Int32)) = 1 then
    1
  else
    0
def unlockF (F : FT) (a : AT) (x : Int32) (y : Int32) (row : Int32) : AT :=
  if ((upd (a 6) x.toNatClampNeg (((a 6) x.toNatClampNeg) ||| ((1 : Int32) <<< (y &&& 31)))) x.toNatClampNeg) = (F 10) then
    updA (updA (updA a 7 (upd (a 7) (((x * (6 : Int32)) + y).toNatClampNeg) row)) 6 (upd (a 6) x.toNatClampNeg (((a 6) x.toNatClampNeg) ||| ((1 : Int32) <<< (y &&& 31))))) 5 (upd (a 5) x.toNatClampNeg 2)
  else
    updA (updA a 7 (upd (a 7) (((x * (6 : Int32)) + y).toNatClampNeg) row)) 6 (upd (a 6) x.toNatClampNeg (((a 6) x.toNatClampNeg) ||| ((1 : Int32) <<< (y &&& 31))))
def mayShowL (F : FT) (a : AT) (n : Nat) (P : Nat) (x : Int32) (row : Int32) : Nat → Nat → Int32
  | 0, i => 0
  | ki + 1, i => if (hashkeyF F a (nI i) x) = (rRest row) then
      1
    else
      mayShowL F a n P x row ki (i + 1)
def mayShowF (F : FT) (a : AT) (n : Nat) (P : Nat) (x : Int32) (row : Int32) : Int32 :=
  if (rRest row) = 0 then
    1
  else
    mayShowL F a n P x row n 0
def isSecuredL (F : FT) (a : AT) (n : Nat) (x : Int32) : Nat → Nat → Int32
  | 0, i => 1
  | ki + 1, i => if ((a 4) i) = x then
      if ((a 5) i) = 1 then
        isSecuredL F a n x ki (i + 1)
      else
        if ((a 5) i) = 2 then
          isSecuredL F a n x ki (i + 1)
        else
          0
    else
      isSecuredL F a n x ki (i + 1)
def isSecuredF (F : FT) (a : AT) (n : Nat) (x : Int32) : Int32 :=
  isSecuredL F a n x n 0
def moveAllL (F : FT) (n : Nat) (x : Int32) (y : Int32) (z : Int32) : Nat → Nat → Int32 → AT → Int32 × AT
  | 0, i, d, a1 => (d, a1)
  | ki + 1, i, d, a1 => if ((a1 3) i) = x then
      if ((a1 5) i) = y then
        moveAllL F n x y z ki (i + 1) (d + 1) (updA a1 5 (upd (a1 5) i z))
      else
        moveAllL F n x y z ki (i + 1) d a1
    else
      moveAllL F n x y z ki (i + 1) d a1
def moveAllF (F : FT) (a : AT) (n : Nat) (x : Int32) (y : Int32) (z : Int32) : Int32 × AT :=
  ((moveAllL F n x y z n 0 0 a).1, (moveAllL F n x y z n 0 0 a).2)
def shortestL (F : FT) (a : AT) (n : Nat) (P : Nat) (x : Int32) (y : Int32) : Nat → Nat → Int32 → Int32
  | 0, i, best => best
  | ki + 1, i, best => if ((a 3) i) = x then
      if (hashkeyF F a (nI i) y) = 0 then
        shortestL F a n P x y ki (i + 1) best
      else
        if (rHas (hashkeyF F a (nI i) y) x) = 0 then
          if best = 0 then
            shortestL F a n P x y ki (i + 1) (hashkeyF F a (nI i) y)
          else
            if (rSize best) ≤ (rSize (hashkeyF F a (nI i) y)) then
              shortestL F a n P x y ki (i + 1) best
            else
              shortestL F a n P x y ki (i + 1) (hashkeyF F a (nI i) y)
        else
          shortestL F a n P x y ki (i + 1) best
    else
      shortestL F a n P x y ki (i + 1) best
def shortestF (F : FT) (a : AT) (n : Nat) (P : Nat) (x : Int32) (y : Int32) : Int32 :=
  shortestL F a n P x y n 0 0
def showToAllL (F : FT) (n : Nat) (x : Int32) (y : Int32) (row : Int32) : Nat → Nat → Int32 → AT → Int32 × AT
  | 0, i, d, a1 => (d, a1)
  | ki + 1, i, d, a1 => if ((a1 4) i) = x then
      if ((a1 5) i) = 1 then
        if (isUnlockedF F a1 (nI i) y) = 0 then
          showToAllL F n x y row ki (i + 1) (d + 1) (unlockF F a1 (nI i) y row)
        else
          showToAllL F n x y row ki (i + 1) d a1
      else
        showToAllL F n x y row ki (i + 1) d a1
    else
      showToAllL F n x y row ki (i + 1) d a1
def showToAllF (F : FT) (a : AT) (n : Nat) (x : Int32) (y : Int32) (row : Int32) : Int32 × AT :=
  if (isInTimeF F a row) = 0 then
    (0, a)
  else
    ((showToAllL F n x y row n 0 0 a).1, (showToAllL F n x y row n 0 0 a).2)
def countArcs3L (F : FT) (a : AT) (n : Nat) (x : Int32) : Nat → Nat → Int32 → Int32
  | 0, i, d => d
  | ki + 1, i, d => if ((a 3) i) = x then
      countArcs3L F a n x ki (i + 1) (d + 1)
    else
      countArcs3L F a n x ki (i + 1) d
def countArcs3F (F : FT) (a : AT) (n : Nat) (x : Int32) : Int32 :=
  countArcs3L F a n x n 0 0
def countArcs4L (F : FT) (a : AT) (n : Nat) (x : Int32) : Nat → Nat → Int32 → Int32
  | 0, i, d => d
  | ki + 1, i, d => if ((a 4) i) = x then
      countArcs4L F a n x ki (i + 1) (d + 1)
    else
      countArcs4L F a n x ki (i + 1) d
def countArcs4F (F : FT) (a : AT) (n : Nat) (x : Int32) : Int32 :=
  countArcs4L F a n x n 0 0
def countPaid3L (F : FT) (a : AT) (n : Nat) (x : Int32) : Nat → Nat → Int32 → Int32
  | 0, i, d => d
  | ki + 1, i, d => if ((a 3) i) = x then
      if ((a 5) i) = 2 then
        countPaid3L F a n x ki (i + 1) (d + 1)
      else
        countPaid3L F a n x ki (i + 1) d
    else
      countPaid3L F a n x ki (i + 1) d
def countPaid3F (F : FT) (a : AT) (n : Nat) (x : Int32) : Int32 :=
  countPaid3L F a n x n 0 0
def countPaid4L (F : FT) (a : AT) (n : Nat) (x : Int32) : Nat → Nat → Int32 → Int32
  | 0, i, d => d
  | ki + 1, i, d => if ((a 4) i) = x then
      if ((a 5) i) = 2 then
        countPaid4L F a n x ki (i + 1) (d + 1)
      else
        countPaid4L F a n x ki (i + 1) d
    else
      countPaid4L F a n x ki (i + 1) d
def countPaid4F (F : FT) (a : AT) (n : Nat) (x : Int32) : Int32 :=
  countPaid4L F a n x n 0 0
def deployAllF (F : FT) (a : AT) (n : Nat) (x : Int32) : Int32 × AT :=
  if (isOverF F a) = 0 then
    if (isLeaderF F a x) = 0 then
      if (isSecuredF F a n x) = 0 then
        (0, a)
      else
        ((moveAllF F a n x 0 1).1, (moveAllF F a n x 0 1).2)
    else
      ((moveAllF F a n x 0 1).1, (moveAllF F a n x 0 1).2)
  else
    (0, a)
def showItselfF (F : FT) (a : AT) (n : Nat) (x : Int32) : Int32 × AT :=
  if (isLeaderF F a x) = 0 then
    (0, a)
  else
    if (isSecuredF F a n x) = 0 then
      (0, a)
    else
      ((showToAllF F a n x x (rWithFirst x 0)).1, (showToAllF F a n x x (rWithFirst x 0)).2)
def showOthersL (F : FT) (n : Nat) (P : Nat) (x : Int32) : Nat → Nat → Int32 → AT → Int32 × AT
  | 0, j, d, a1 => (d, a1)
  | kj + 1, j, d, a1 => if (isLeaderF F a1 (nI j)) = 0 then
      showOthersL F n P x kj (j + 1) d a1
    else
      if (shortestF F a1 n P x (nI j)) = 0 then
        showOthersL F n P x kj (j + 1) d a1
      else
        showOthersL F n P x kj (j + 1) (d + ((showToAllF F a1 n x (nI j) (rWithFirst x (shortestF F a1 n P x (nI j)))).1)) ((showToAllF F a1 n x (nI j) (rWithFirst x (shortestF F a1 n P x (nI j)))).2)
def showOthersF (F : FT) (a : AT) (n : Nat) (P : Nat) (x : Int32) : Int32 × AT :=
  ((showOthersL F n P x P 0 0 a).1, (showOthersL F n P x P 0 0 a).2)
def takeAllBackF (F : FT) (a : AT) (n : Nat) (x : Int32) : Int32 × AT :=
  if (isOverF F a) = 0 then
    (0, a)
  else
    ((moveAllF F a n x 1 3).1, (moveAllF F a n x 1 3).2)
def doDeedsF (F : FT) (a : AT) (n : Nat) (P : Nat) (x : Int32) : Int32 × AT :=
  (((((deployAllF F a n x).1) + ((showItselfF F ((deployAllF F a n x).2) n x).1)) + ((showOthersF F ((showItselfF F ((deployAllF F a n x).2) n x).2) n P x).1)) + ((takeAllBackF F ((showOthersF F ((showItselfF F ((deployAllF F a n x).2) n x).2) n P x).2) n x).1), (takeAllBackF F ((showOthersF F ((showItselfF F ((deployAllF F a n x).2) n x).2) n P x).2) n x).2)
def leadersF (F : FT) (a : AT) : Int32 :=
  F 10
def conformF (F : FT) (a : AT) (x : Int32) (y : Int32) : Int32 × FT :=
  if (isPartyF F a x) = 0 then
    (0, F)
  else
    if (conformsF F a x) = y then
      (0, F)
    else
      (1, upd F 14 ((F 14) ^^^ ((1 : Int32) <<< (x &&& 31))))
def stepF (F : FT) (a : AT) (x : Int32) : Int32 × FT :=
  if (isPartyF F a x) = 0 then
    ((-1), F)
  else
    if (rSize (F 15)) < 6 then
      ((rSize (F 15)) + (1 : Int32), upd F 15 (rWithLast (F 15) x))
    else
      ((-1), F)
def clearF (F : FT) (a : AT) : FT :=
  upd F 15 0
def passF (F : FT) (a : AT) (x : Int32) : Int32 × FT :=
  if x < 0 then
    ((-1), F)
  else
    if x ≤ 100 then
      ((F 13) + x, upd F 13 ((F 13) + x))
    else
      ((-1), F)
def mThrown (F : FT) (a : AT) : Int32 :=
  F 2
def mFail (F : FT) (a : AT) (x : Int32) : Int32 × FT :=
  (0, upd F 2 x)
def mIsParty (F : FT) (a : AT) (x : Int32) : Int32 :=
  if x < 0 then
    0
  else
    if (F 0) ≤ x then
      0
    else
      1
def mIsArc (F : FT) (a : AT) (x : Int32) : Int32 :=
  if x < 0 then
    0
  else
    if (F 9) ≤ x then
      0
    else
      1
def mHas (x : Int32) (y : Int32) : Int32 :=
  if ((x >>> (y &&& 31)) &&& (1 : Int32)) = 1 then
    1
  else
    0
def mSizeL (x : Int32) : Nat → Nat → Int32 → Int32
  | 0, i, u => u
  | ki + 1, i, u => mSizeL x ki (i + 1) (u + ((x >>> ((nI i) &&& 31)) &&& (1 : Int32)))
def mSize (x : Int32) : Int32 :=
  mSizeL x 6 0 0
def mMany (row : Int32) : Int32 :=
  row >>> ((18 : Int32) &&& 31)
def mMember (row : Int32) (k : Int32) : Int32 :=
  (row >>> (((3 : Int32) * k) &&& 31)) &&& (7 : Int32)
def mMembersL (mm : Nat) (row : Int32) : Nat → Nat → Int32 → Int32
  | 0, i, u => u
  | ki + 1, i, u => mMembersL mm row ki (i + 1) (u ||| ((1 : Int32) <<< ((mMember row (nI i)) &&& 31)))
def mMembers (mm : Nat) (row : Int32) : Int32 :=
  mMembersL mm row mm 0 0
def mBefore (x : Int32) (row : Int32) : Int32 :=
  ((((row &&& (262143 : Int32)) <<< ((3 : Int32) &&& 31)) &&& (262143 : Int32)) ||| x) ||| (((mMany row) + (1 : Int32)) <<< ((18 : Int32) &&& 31))
def mBehind (row : Int32) : Int32 :=
  ((row &&& (262143 : Int32)) >>> ((3 : Int32) &&& 31)) ||| (((mMany row) - (1 : Int32)) <<< ((18 : Int32) &&& 31))
def mIsInTime (F : FT) (a : AT) (x : Int32) : Int32 :=
  if ((F 5) + (((F 6) + x) * (F 1))) ≤ (F 3) then
    0
  else
    1
def mIsLate (F : FT) (a : AT) : Int32 :=
  if (F 3) < ((F 5) + (((2 : Int32) * (F 6)) * (F 1))) then
    0
  else
    1
def mReachedI (F : FT) (a : AT) (P : Nat) (x : Int32) : Nat → Nat → Int32 → Int32
  | 0, qq, v => v
  | kqq + 1, qq, v => if (mHas v (nI qq)) = 0 then
      mReachedI F a P x kqq (qq + 1) v
    else
      mReachedI F a P x kqq (qq + 1) (v ||| ((a 15) qq))
def mReachedL (F : FT) (a : AT) (P : Nat) (x : Int32) : Nat → Nat → Int32 → Int32
  | 0, r, u => u
  | kr + 1, r, u => mReachedL F a P x kr (r + 1) (mReachedI F a P x P 0 u)
def mReached (F : FT) (a : AT) (P : Nat) (x : Int32) : Int32 :=
  mReachedL F a P x P 0 ((1 : Int32) <<< (x &&& 31))
def mIsOpenI (F : FT) (a : AT) (P : Nat) (x : Int32) : Nat → Nat → Int32 → Int32
  | 0, qq, v => v
  | kqq + 1, qq, v => if (mHas v (nI qq)) = 0 then
      mIsOpenI F a P x kqq (qq + 1) v
    else
      if (((a 15) qq) &&& v) = 0 then
        mIsOpenI F a P x kqq (qq + 1) (v &&& (((1 : Int32) <<< ((nI qq) &&& 31)) ^^^ ((-1) : Int32)))
      else
        mIsOpenI F a P x kqq (qq + 1) v
def mIsOpenL (F : FT) (a : AT) (P : Nat) (x : Int32) : Nat → Nat → Int32 → Int32
  | 0, r, u => u
  | kr + 1, r, u => mIsOpenL F a P x kr (r + 1) (mIsOpenI F a P x P 0 u)
def mIsOpen (F : FT) (a : AT) (P : Nat) (x : Int32) : Int32 :=
  if (mIsOpenL F a P x P 0 x) = 0 then
    1
  else
    0
def mGreatI (F : FT) (a2 : AT) (P : Nat) (ss : Nat) (pp : Nat) : Nat → Nat → Int32 → Int32
  | 0, qq, can => can
  | kqq + 1, qq, can => if (mHas (nI ss) (nI pp)) = 0 then
      can
    else
      if can = 0 then
        if (nI qq) = (nI pp) then
          mGreatI F a2 P ss pp kqq (qq + 1) 0
        else
          if (mHas (nI ss) (nI qq)) = 0 then
            mGreatI F a2 P ss pp kqq (qq + 1) 0
          else
            if (mHas ((a2 15) qq) (nI pp)) = 0 then
              mGreatI F a2 P ss pp kqq (qq + 1) 0
            else
              if ((a2 16) ((((6 : Int32) * ((nI ss) &&& (((1 : Int32) <<< ((nI pp) &&& 31)) ^^^ ((-1) : Int32)))) + (nI qq)).toNatClampNeg)) = 0 then
                mGreatI F a2 P ss pp kqq (qq + 1) 0
              else
                mGreatI F a2 P ss pp kqq (qq + 1) 1
      else
        mGreatI F a2 P ss pp kqq (qq + 1) 1
def mCan0 (ss : Nat) (pp : Nat) : Int32 :=
  if (nI ss) = ((1 : Int32) <<< ((nI pp) &&& 31)) then
    1
  else
    0
def mGreatM (F : FT) (P : Nat) (ss : Nat) : Nat → Nat → Int32 → AT → Int32 × AT
  | 0, pp, v, a2 => (v, a2)
  | kpp + 1, pp, v, a2 => if (mHas (nI ss) (nI pp)) = 0 then
      mGreatM F P ss kpp (pp + 1) v (updA a2 16 (upd (a2 16) ((((6 : Int32) * (nI ss)) + (nI pp)).toNatClampNeg) 0))
    else
      if (mGreatI F a2 P ss pp P 0 (mCan0 ss pp)) = 0 then
        mGreatM F P ss kpp (pp + 1) v (updA a2 16 (upd (a2 16) ((((6 : Int32) * (nI ss)) + (nI pp)).toNatClampNeg) 0))
      else
        if ((mSize (nI ss)) - (1 : Int32)) ≤ v then
          mGreatM F P ss kpp (pp + 1) v (updA a2 16 (upd (a2 16) ((((6 : Int32) * (nI ss)) + (nI pp)).toNatClampNeg) 1))
        else
          mGreatM F P ss kpp (pp + 1) ((mSize (nI ss)) - (1 : Int32)) (updA a2 16 (upd (a2 16) ((((6 : Int32) * (nI ss)) + (nI pp)).toNatClampNeg) 1))
def mGreatL (F : FT) (P : Nat) : Nat → Nat → Int32 → AT → Int32 × AT
  | 0, ss, u, a1 => (u, a1)
  | kss + 1, ss, u, a1 => mGreatL F P kss (ss + 1) ((mGreatM F P ss P 0 u a1).1) ((mGreatM F P ss P 0 u a1).2)
def mGreat (F : FT) (a : AT) (P : Nat) : Int32 × AT :=
  ((mGreatL F P (2 ^ P - 1) 1 0 a).1, (mGreatL F P (2 ^ P - 1) 1 0 a).2)
def mUnlock (F : FT) (a : AT) (x : Int32) (row : Int32) : AT :=
  if ((upd (a 13) x.toNatClampNeg (((a 13) x.toNatClampNeg) ||| ((1 : Int32) <<< ((mMember row ((mMany row) - (1 : Int32))) &&& 31)))) x.toNatClampNeg) = (F 7) then
    updA (updA (updA a 13 (upd (a 13) x.toNatClampNeg (((a 13) x.toNatClampNeg) ||| ((1 : Int32) <<< ((mMember row ((mMany row) - (1 : Int32))) &&& 31))))) 14 (upd (a 14) ((((6 : Int32) * x) + (mMember row ((mMany row) - (1 : Int32)))).toNatClampNeg) row)) 12 (upd (a 12) x.toNatClampNeg 2)
  else
    updA (updA a 13 (upd (a 13) x.toNatClampNeg (((a 13) x.toNatClampNeg) ||| ((1 : Int32) <<< ((mMember row ((mMany row) - (1 : Int32))) &&& 31))))) 14 (upd (a 14) ((((6 : Int32) * x) + (mMember row ((mMany row) - (1 : Int32)))).toNatClampNeg) row)
def mCoveredL (F : FT) (a : AT) (n : Nat) (x : Int32) : Nat → Nat → Int32 → Int32
  | 0, i, u => u
  | ki + 1, i, u => if u = 0 then
      mCoveredL F a n x ki (i + 1) 0
    else
      if ((a 11) i) = x then
        if ((a 12) i) = 1 then
          mCoveredL F a n x ki (i + 1) 1
        else
          if ((a 12) i) = 2 then
            mCoveredL F a n x ki (i + 1) 1
          else
            mCoveredL F a n x ki (i + 1) 0
      else
        mCoveredL F a n x ki (i + 1) 1
def mCovered (F : FT) (a : AT) (n : Nat) (x : Int32) : Int32 :=
  mCoveredL F a n x n 0 1
def mShownByL (F : FT) (n : Nat) (x : Int32) (y : Int32) (row : Int32) : Nat → Nat → Int32 → AT → Int32 × AT
  | 0, i, d, a1 => (d, a1)
  | ki + 1, i, d, a1 => if ((a1 11) i) = x then
      if ((a1 12) i) = 1 then
        if (mHas ((a1 13) i) y) = 0 then
          if (mIsInTime F a1 ((mMany row) - (1 : Int32))) = 0 then
            mShownByL F n x y row ki (i + 1) d a1
          else
            mShownByL F n x y row ki (i + 1) (d + 1) (mUnlock F a1 (nI i) row)
        else
          mShownByL F n x y row ki (i + 1) d a1
      else
        mShownByL F n x y row ki (i + 1) d a1
    else
      mShownByL F n x y row ki (i + 1) d a1
def mShownBy (F : FT) (a : AT) (n : Nat) (x : Int32) (y : Int32) (row : Int32) : Int32 × AT :=
  ((mShownByL F n x y row n 0 0 a).1, (mShownByL F n x y row n 0 0 a).2)
def mShortestL (F : FT) (a : AT) (n : Nat) (x : Int32) (y : Int32) : Nat → Nat → Int32 → Int32
  | 0, i, best => best
  | ki + 1, i, best => if ((a 10) i) = x then
      if (mHas ((a 13) i) y) = 0 then
        mShortestL F a n x y ki (i + 1) best
      else
        if (mHas (mMembers ((mMany ((a 14) ((((6 : Int32) * (nI i)) + y).toNatClampNeg))).toNatClampNeg) ((a 14) ((((6 : Int32) * (nI i)) + y).toNatClampNeg))) x) = 0 then
          if best = 0 then
            mShortestL F a n x y ki (i + 1) ((a 14) ((((6 : Int32) * (nI i)) + y).toNatClampNeg))
          else
            if (mMany best) ≤ (mMany ((a 14) ((((6 : Int32) * (nI i)) + y).toNatClampNeg))) then
              mShortestL F a n x y ki (i + 1) best
            else
              mShortestL F a n x y ki (i + 1) ((a 14) ((((6 : Int32) * (nI i)) + y).toNatClampNeg))
        else
          mShortestL F a n x y ki (i + 1) best
    else
      mShortestL F a n x y ki (i + 1) best
def mShortest (F : FT) (a : AT) (n : Nat) (x : Int32) (y : Int32) : Int32 :=
  mShortestL F a n x y n 0 0
def mFewestI (F : FT) (a : AT) (P : Nat) (i : Nat) (K : Int32) : Nat → Nat → Int32
  | 0, j => K
  | kj + 1, j => if (mSize (nI j)) = (nI i) then
      if (mIsOpen F a P ((nI (2 ^ P - 1)) &&& ((nI j) ^^^ ((-1) : Int32)))) = 0 then
        mFewestI F a P i K kj (j + 1)
      else
        nI j
    else
      mFewestI F a P i K kj (j + 1)
def mFewestL (F : FT) (a : AT) (P : Nat) : Nat → Nat → Int32
  | 0, i => nI (2 ^ P - 1)
  | ki + 1, i => mFewestI F a P i (mFewestL F a P ki (i + 1)) (2 ^ P) 0
def mFewest (F : FT) (a : AT) (P : Nat) : Int32 :=
  mFewestL F a P (P + 1) 0
def mPlanL (F : FT) (a : AT) (P : Nat) : Nat → Nat → Int32 × FT × AT
  | 0, i => ((mGreat (upd (upd (upd F 2 0) 4 1) 5 (F 3)) a P).1, upd (upd (upd (upd (upd F 2 0) 4 1) 5 (F 3)) 6 ((mGreat (upd (upd (upd F 2 0) 4 1) 5 (F 3)) a P).1)) 7 (mFewest (upd (upd (upd (upd F 2 0) 4 1) 5 (F 3)) 6 ((mGreat (upd (upd (upd F 2 0) 4 1) 5 (F 3)) a P).1)) ((mGreat (upd (upd (upd F 2 0) 4 1) 5 (F 3)) a P).2) P), (mGreat (upd (upd (upd F 2 0) 4 1) 5 (F 3)) a P).2)
  | ki + 1, i => if (mReached (upd F 2 0) a P (nI i)) = (nI (2 ^ P - 1)) then
      mPlanL F a P ki (i + 1)
    else
      ((mFail (upd F 2 0) a 2).1, (mFail (upd F 2 0) a 2).2, a)
def mPlan (F : FT) (a : AT) (P : Nat) : Int32 × FT × AT :=
  if (F 4) = 0 then
    mPlanL F a P P 0
  else
    ((mFail (upd F 2 0) a 1).1, (mFail (upd F 2 0) a 1).2, a)
def mDeploy (F : FT) (a : AT) (x : Int32) : FT × AT :=
  if (mIsArc F a x) = 0 then
    (upd F 2 1, a)
  else
    if (F 4) = 0 then
      (upd F 2 2, a)
    else
      if ((a 12) x.toNatClampNeg) = 0 then
        (upd F 2 0, updA a 12 (upd (a 12) x.toNatClampNeg 1))
      else
        (upd F 2 2, a)
def mBack (F : FT) (a : AT) (x : Int32) : FT × AT :=
  if (mIsArc F a x) = 0 then
    (upd F 2 1, a)
  else
    if ((a 12) x.toNatClampNeg) = 1 then
      if (mIsLate F a) = 0 then
        (upd F 2 3, a)
      else
        (upd F 2 0, updA a 12 (upd (a 12) x.toNatClampNeg 3))
    else
      (upd F 2 2, a)
def mState (F : FT) (a : AT) (x : Int32) : Int32 × FT :=
  if (mIsArc (upd F 2 0) a x) = 0 then
    ((mFail (upd F 2 0) a 1).1, (mFail (upd F 2 0) a 1).2)
  else
    ((a 12) x.toNatClampNeg, upd F 2 0)
def mOpen (F : FT) (a : AT) (x : Int32) : Int32 × FT :=
  if (mIsArc (upd F 2 0) a x) = 0 then
    ((mFail (upd F 2 0) a 1).1, (mFail (upd F 2 0) a 1).2)
  else
    ((a 13) x.toNatClampNeg, upd F 2 0)
def mKey (F : FT) (a : AT) (x : Int32) (y : Int32) (z : Int32) : Int32 × FT :=
  if (mIsArc (upd F 2 0) a x) = 0 then
    ((mFail (upd F 2 0) a 1).1, (mFail (upd F 2 0) a 1).2)
  else
    if (mIsParty (upd F 2 0) a y) = 0 then
      ((-1), upd F 2 0)
    else
      if (mHas ((a 13) x.toNatClampNeg) y) = 0 then
        ((-1), upd F 2 0)
      else
        if z < 0 then
          ((-1), upd F 2 0)
        else
          if (mMany ((a 14) ((((6 : Int32) * x) + y).toNatClampNeg))) ≤ z then
            ((-1), upd F 2 0)
          else
            (mMember ((a 14) ((((6 : Int32) * x) + y).toNatClampNeg)) z, upd F 2 0)
def mOutcomeL (F : FT) (a : AT) (n : Nat) (x : Int32) : Nat → Nat → Int32 → Int32 → Int32 → Int32 → Int32 × Int32 × Int32 × Int32
  | 0, i, u2, u3, u4, u5 => (u2, u3, u4, u5)
  | ki + 1, i, u2, u3, u4, u5 => if ((a 12) i) = 2 then
      if ((a 11) i) = x then
        if ((a 10) i) = x then
          mOutcomeL F a n x ki (i + 1) (u2 + 1) (u3 + 1) (u4 + 1) (u5 + 1)
        else
          mOutcomeL F a n x ki (i + 1) (u2 + 1) u3 (u4 + 1) u5
      else
        if ((a 10) i) = x then
          mOutcomeL F a n x ki (i + 1) u2 (u3 + 1) u4 (u5 + 1)
        else
          mOutcomeL F a n x ki (i + 1) u2 u3 u4 u5
    else
      if ((a 11) i) = x then
        if ((a 10) i) = x then
          mOutcomeL F a n x ki (i + 1) u2 u3 (u4 + 1) (u5 + 1)
        else
          mOutcomeL F a n x ki (i + 1) u2 u3 (u4 + 1) u5
      else
        if ((a 10) i) = x then
          mOutcomeL F a n x ki (i + 1) u2 u3 u4 (u5 + 1)
        else
          mOutcomeL F a n x ki (i + 1) u2 u3 u4 u5
def mOutcome (F : FT) (a : AT) (n : Nat) (x : Int32) : Int32 × FT :=
  if (mIsParty (upd F 2 0) a x) = 0 then
    ((mFail (upd F 2 0) a 1).1, (mFail (upd F 2 0) a 1).2)
  else
    if ((mOutcomeL F a n x n 0 0 0 0 0).1) = 0 then
      if ((mOutcomeL F a n x n 0 0 0 0 0).2.1) = 0 then
        (0, upd F 2 0)
      else
        if ((mOutcomeL F a n x n 0 0 0 0 0).1) = ((mOutcomeL F a n x n 0 0 0 0 0).2.2.1) then
          if ((mOutcomeL F a n x n 0 0 0 0 0).2.1) = ((mOutcomeL F a n x n 0 0 0 0 0).2.2.2) then
            (1, upd F 2 0)
          else
            (2, upd F 2 0)
        else
          if ((mOutcomeL F a n x n 0 0 0 0 0).1) ≤ 0 then
            (4, upd F 2 0)
          else
            (4, upd F 2 0)
    else
      if ((mOutcomeL F a n x n 0 0 0 0 0).1) = ((mOutcomeL F a n x n 0 0 0 0 0).2.2.1) then
        if ((mOutcomeL F a n x n 0 0 0 0 0).2.1) = ((mOutcomeL F a n x n 0 0 0 0 0).2.2.2) then
          (1, upd F 2 0)
        else
          (2, upd F 2 0)
      else
        if ((mOutcomeL F a n x n 0 0 0 0 0).1) ≤ 0 then
          (4, upd F 2 0)
        else
          if ((mOutcomeL F a n x n 0 0 0 0 0).2.1) = 0 then
            (3, upd F 2 0)
          else
            (4, upd F 2 0)
def mArc (F : FT) (a : AT) (x : Int32) (y : Int32) : Int32 × FT × AT :=
  if (mIsParty (upd F 2 0) a x) = 0 then
    ((mFail (upd F 2 0) a 1).1, (mFail (upd F 2 0) a 1).2, a)
  else
    if (mIsParty (upd F 2 0) a y) = 0 then
      ((mFail (upd F 2 0) a 1).1, (mFail (upd F 2 0) a 1).2, a)
    else
      if x = y then
        ((mFail (upd F 2 0) a 1).1, (mFail (upd F 2 0) a 1).2, a)
      else
        if (mHas ((a 15) x.toNatClampNeg) y) = 0 then
          if (F 4) = 0 then
            if (F 9) = 14 then
              ((mFail (upd F 2 0) a 2).1, (mFail (upd F 2 0) a 2).2, a)
            else
              (((F 9) + (1 : Int32)) - (1 : Int32), upd (upd F 2 0) 9 ((F 9) + (1 : Int32)), updA (updA (updA a 10 (upd (a 10) ((F 9).toNatClampNeg) x)) 11 (upd (a 11) ((F 9).toNatClampNeg) y)) 15 (upd (a 15) x.toNatClampNeg (((a 15) x.toNatClampNeg) ||| ((1 : Int32) <<< (y &&& 31)))))
          else
            ((mFail (upd F 2 0) a 2).1, (mFail (upd F 2 0) a 2).2, a)
        else
          ((mFail (upd F 2 0) a 1).1, (mFail (upd F 2 0) a 1).2, a)
def mIsPathL (F : FT) (a : AT) (mm : Nat) (x : Int32) : Nat → Nat → Int32 → Int32
  | 0, i, u => u
  | ki + 1, i, u => if u = 0 then
      mIsPathL F a mm x ki (i + 1) 0
    else
      if (mHas ((a 15) ((mMember (F 17) (nI i)).toNatClampNeg)) (mMember (F 17) (nI (i + 1)))) = 0 then
        mIsPathL F a mm x ki (i + 1) 0
      else
        mIsPathL F a mm x ki (i + 1) 1
def mIsPath (F : FT) (a : AT) (mm : Nat) (x : Int32) : Int32 :=
  if (nI mm) = 0 then
    0
  else
    if (mMember (F 17) 0) = x then
      if (mSize (mMembers mm (F 17))) = (nI mm) then
        if (mHas (F 7) (mMember (F 17) ((nI mm) - (1 : Int32)))) = 0 then
          0
        else
          mIsPathL F a mm x (mm - 1) 0 1
      else
        0
    else
      0
def mIsKnownL (F : FT) (a : AT) (mm : Nat) (n : Nat) : Nat → Nat → Int32 → Int32
  | 0, i, u => u
  | ki + 1, i, u => if u = 0 then
      if (mHas ((a 13) i) (mMember (F 17) ((nI mm) - (1 : Int32)))) = 0 then
        mIsKnownL F a mm n ki (i + 1) 0
      else
        if ((a 14) ((((6 : Int32) * (nI i)) + (mMember (F 17) ((nI mm) - (1 : Int32)))).toNatClampNeg)) = (mBehind (F 17)) then
          mIsKnownL F a mm n ki (i + 1) 1
        else
          mIsKnownL F a mm n ki (i + 1) 0
    else
      mIsKnownL F a mm n ki (i + 1) 1
def mIsKnown (F : FT) (a : AT) (mm : Nat) (n : Nat) : Int32 :=
  if (nI mm) = 1 then
    1
  else
    mIsKnownL F a mm n n 0 0
def mLeaders (F : FT) (a : AT) : Int32 × FT :=
  (F 7, upd F 2 0)
def mConform (F : FT) (a : AT) (x : Int32) (y : Int32) : Int32 × FT :=
  if (mIsParty (upd F 2 0) a x) = 0 then
    (0, upd F 2 0)
  else
    if (mHas (F 8) x) = y then
      (1, upd (upd F 2 0) 8 ((F 8) ^^^ ((1 : Int32) <<< (x &&& 31))))
    else
      (0, upd F 2 0)
def mStep (F : FT) (a : AT) (x : Int32) : Int32 × FT :=
  if (mIsParty (upd F 2 0) a x) = 0 then
    ((-1), upd F 2 0)
  else
    if (mMany (F 17)) = 6 then
      ((-1), upd F 2 0)
    else
      ((mMany (F 17)) + (1 : Int32), upd (upd F 2 0) 17 ((((F 17) &&& (262143 : Int32)) ||| (x <<< (((3 : Int32) * (mMany (F 17))) &&& 31))) ||| (((mMany (F 17)) + (1 : Int32)) <<< ((18 : Int32) &&& 31))))
def mClear (F : FT) (a : AT) : FT :=
  upd (upd F 2 0) 17 0
def mPass (F : FT) (a : AT) (x : Int32) : Int32 × FT :=
  if x < 0 then
    ((-1), upd F 2 0)
  else
    if x ≤ 100 then
      ((F 3) + x, upd (upd F 2 0) 3 ((F 3) + x))
    else
      ((-1), upd F 2 0)

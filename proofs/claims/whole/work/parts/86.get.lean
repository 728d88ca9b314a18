/-! what shapes give, as rows -/
theorem vr_0 {t : Nat} {h : Hp} (V : XV t h) : gR h 0 11 0 = some 1 := gR_e (XS_k (XV_x V)) (XS_r0 (XV_x V))
theorem vr_2 {t : Nat} {h : Hp} (V : XV t h) : gR h 0 11 2 = some 2 := gR_e (XS_k (XV_x V)) (XS_r2 (XV_x V))
theorem vr_4 {t : Nat} {h : Hp} (V : XV t h) : gR h 0 11 4 = some 44 := gR_e (XS_k (XV_x V)) (XS_r4 (XV_x V))
theorem vr_5 {t : Nat} {h : Hp} (V : XV t h) : gR h 0 11 5 = some 47 := gR_e (XS_k (XV_x V)) (XS_r5 (XV_x V))
theorem vr_6 {t : Nat} {h : Hp} (V : XV t h) : gR h 0 11 6 = some 50 := gR_e (XS_k (XV_x V)) (XS_r6 (XV_x V))
theorem vr_7 {t : Nat} {h : Hp} (V : XV t h) : gR h 0 11 7 = some 54 := gR_e (XS_k (XV_x V)) (XS_r7 (XV_x V))
theorem vr_8 {t : Nat} {h : Hp} (V : XV t h) : gR h 0 11 8 = some 57 := gR_e (XS_k (XV_x V)) (XS_r8 (XV_x V))
theorem vr_9 {t : Nat} {h : Hp} (V : XV t h) : gR h 0 11 9 = some 70 := gR_e (XS_k (XV_x V)) (XS_r9 (XV_x V))
theorem vr_10 {t : Nat} {h : Hp} (V : XV t h) : gR h 0 11 10 = some 79 := gR_e (XS_k (XV_x V)) (XS_r10 (XV_x V))
theorem vr_11 {t : Nat} {h : Hp} (V : XV t h) : gR h 0 11 11 = some 84 := gR_e (XS_k (XV_x V)) (XS_r11 (XV_x V))
theorem vr_3 {t : Nat} {h : Hp} (V : XV t h) : gR h 0 11 3 = some t := gR_e (XS_k (XV_x V)) (XV_t V)
theorem v0i {t : Nat} {h : Hp} (V : XV t h) (k : Nat) : gI h 0 11 k = some (J (fi h 0 k)) := gI_J (XS_k (XV_x V))
theorem v0p {t : Nat} {h : Hp} (V : XV t h) (k : Nat) (v : Int) : pI h 0 11 k (J v) = some (wF h 0 k v) := pI_J (XS_k (XV_x V))
theorem sr44_0 {t : Nat} {h : Hp} (V : XV t h) : gR h 44 8 0 = some 45 := gR_e (SS_k (XV_s44 V)) (SS_r0 (XV_s44 V))
theorem sr44_1 {t : Nat} {h : Hp} (V : XV t h) : gR h 44 8 1 = some 46 := gR_e (SS_k (XV_s44 V)) (SS_r1 (XV_s44 V))
theorem s44i {t : Nat} {h : Hp} (V : XV t h) (k : Nat) : gI h 44 8 k = some (J (fi h 44 k)) := gI_J (SS_k (XV_s44 V))
theorem s44p {t : Nat} {h : Hp} (V : XV t h) (k : Nat) (v : Int) : pI h 44 8 k (J v) = some (wF h 44 k v) := pI_J (SS_k (XV_s44 V))
theorem s45a {t : Nat} {h : Hp} (V : XV t h) {z : Int} (h0 : 0 ≤ z) (h1 : z < 25) : aI h 100 45 (J z) = some (J (ia h 45 z)) := aI_J (SS_k0 (XV_s44 V)) h0 (by have nn : (iA h 45).length = 25 := SS_n0 (XV_s44 V); omega) (by omega)
theorem s45s {t : Nat} {h : Hp} (V : XV t h) {z v : Int} (h0 : 0 ≤ z) (h1 : z < 25) : sI h 100 45 (J z) (J v) = some (wA h 45 z v) := sI_J (SS_k0 (XV_s44 V)) (by omega) h0 (by have nn : (iA h 45).length = 25 := SS_n0 (XV_s44 V); omega) (by omega)
theorem s46a {t : Nat} {h : Hp} (V : XV t h) {z : Int} (h0 : 0 ≤ z) (h1 : z < 3) : aI h 100 46 (J z) = some (J (ia h 46 z)) := aI_J (SS_k1 (XV_s44 V)) h0 (by have nn : (iA h 46).length = 3 := SS_n1 (XV_s44 V); omega) (by omega)
theorem s46s {t : Nat} {h : Hp} (V : XV t h) {z v : Int} (h0 : 0 ≤ z) (h1 : z < 3) : sI h 100 46 (J z) (J v) = some (wA h 46 z v) := sI_J (SS_k1 (XV_s44 V)) (by omega) h0 (by have nn : (iA h 46).length = 3 := SS_n1 (XV_s44 V); omega) (by omega)
theorem sr47_0 {t : Nat} {h : Hp} (V : XV t h) : gR h 47 8 0 = some 48 := gR_e (SS_k (XV_s47 V)) (SS_r0 (XV_s47 V))
theorem sr47_1 {t : Nat} {h : Hp} (V : XV t h) : gR h 47 8 1 = some 49 := gR_e (SS_k (XV_s47 V)) (SS_r1 (XV_s47 V))
theorem s47i {t : Nat} {h : Hp} (V : XV t h) (k : Nat) : gI h 47 8 k = some (J (fi h 47 k)) := gI_J (SS_k (XV_s47 V))
theorem s47p {t : Nat} {h : Hp} (V : XV t h) (k : Nat) (v : Int) : pI h 47 8 k (J v) = some (wF h 47 k v) := pI_J (SS_k (XV_s47 V))
theorem s48a {t : Nat} {h : Hp} (V : XV t h) {z : Int} (h0 : 0 ≤ z) (h1 : z < 25) : aI h 100 48 (J z) = some (J (ia h 48 z)) := aI_J (SS_k0 (XV_s47 V)) h0 (by have nn : (iA h 48).length = 25 := SS_n0 (XV_s47 V); omega) (by omega)
theorem s48s {t : Nat} {h : Hp} (V : XV t h) {z v : Int} (h0 : 0 ≤ z) (h1 : z < 25) : sI h 100 48 (J z) (J v) = some (wA h 48 z v) := sI_J (SS_k0 (XV_s47 V)) (by omega) h0 (by have nn : (iA h 48).length = 25 := SS_n0 (XV_s47 V); omega) (by omega)
theorem s49a {t : Nat} {h : Hp} (V : XV t h) {z : Int} (h0 : 0 ≤ z) (h1 : z < 3) : aI h 100 49 (J z) = some (J (ia h 49 z)) := aI_J (SS_k1 (XV_s47 V)) h0 (by have nn : (iA h 49).length = 3 := SS_n1 (XV_s47 V); omega) (by omega)
theorem s49s {t : Nat} {h : Hp} (V : XV t h) {z v : Int} (h0 : 0 ≤ z) (h1 : z < 3) : sI h 100 49 (J z) (J v) = some (wA h 49 z v) := sI_J (SS_k1 (XV_s47 V)) (by omega) h0 (by have nn : (iA h 49).length = 3 := SS_n1 (XV_s47 V); omega) (by omega)
theorem sr62_0 {t : Nat} {h : Hp} (V : XV t h) : gR h 62 8 0 = some 63 := gR_e (SS_k (XV_s62 V)) (SS_r0 (XV_s62 V))
theorem sr62_1 {t : Nat} {h : Hp} (V : XV t h) : gR h 62 8 1 = some 64 := gR_e (SS_k (XV_s62 V)) (SS_r1 (XV_s62 V))
theorem s62i {t : Nat} {h : Hp} (V : XV t h) (k : Nat) : gI h 62 8 k = some (J (fi h 62 k)) := gI_J (SS_k (XV_s62 V))
theorem s62p {t : Nat} {h : Hp} (V : XV t h) (k : Nat) (v : Int) : pI h 62 8 k (J v) = some (wF h 62 k v) := pI_J (SS_k (XV_s62 V))
theorem s63a {t : Nat} {h : Hp} (V : XV t h) {z : Int} (h0 : 0 ≤ z) (h1 : z < 25) : aI h 100 63 (J z) = some (J (ia h 63 z)) := aI_J (SS_k0 (XV_s62 V)) h0 (by have nn : (iA h 63).length = 25 := SS_n0 (XV_s62 V); omega) (by omega)
theorem s63s {t : Nat} {h : Hp} (V : XV t h) {z v : Int} (h0 : 0 ≤ z) (h1 : z < 25) : sI h 100 63 (J z) (J v) = some (wA h 63 z v) := sI_J (SS_k0 (XV_s62 V)) (by omega) h0 (by have nn : (iA h 63).length = 25 := SS_n0 (XV_s62 V); omega) (by omega)
theorem s64a {t : Nat} {h : Hp} (V : XV t h) {z : Int} (h0 : 0 ≤ z) (h1 : z < 3) : aI h 100 64 (J z) = some (J (ia h 64 z)) := aI_J (SS_k1 (XV_s62 V)) h0 (by have nn : (iA h 64).length = 3 := SS_n1 (XV_s62 V); omega) (by omega)
theorem s64s {t : Nat} {h : Hp} (V : XV t h) {z v : Int} (h0 : 0 ≤ z) (h1 : z < 3) : sI h 100 64 (J z) (J v) = some (wA h 64 z v) := sI_J (SS_k1 (XV_s62 V)) (by omega) h0 (by have nn : (iA h 64).length = 3 := SS_n1 (XV_s62 V); omega) (by omega)
theorem sr76_0 {t : Nat} {h : Hp} (V : XV t h) : gR h 76 8 0 = some 77 := gR_e (SS_k (XV_s76 V)) (SS_r0 (XV_s76 V))
theorem sr76_1 {t : Nat} {h : Hp} (V : XV t h) : gR h 76 8 1 = some 78 := gR_e (SS_k (XV_s76 V)) (SS_r1 (XV_s76 V))
theorem s76i {t : Nat} {h : Hp} (V : XV t h) (k : Nat) : gI h 76 8 k = some (J (fi h 76 k)) := gI_J (SS_k (XV_s76 V))
theorem s76p {t : Nat} {h : Hp} (V : XV t h) (k : Nat) (v : Int) : pI h 76 8 k (J v) = some (wF h 76 k v) := pI_J (SS_k (XV_s76 V))
theorem s77a {t : Nat} {h : Hp} (V : XV t h) {z : Int} (h0 : 0 ≤ z) (h1 : z < 25) : aI h 100 77 (J z) = some (J (ia h 77 z)) := aI_J (SS_k0 (XV_s76 V)) h0 (by have nn : (iA h 77).length = 25 := SS_n0 (XV_s76 V); omega) (by omega)
theorem s77s {t : Nat} {h : Hp} (V : XV t h) {z v : Int} (h0 : 0 ≤ z) (h1 : z < 25) : sI h 100 77 (J z) (J v) = some (wA h 77 z v) := sI_J (SS_k0 (XV_s76 V)) (by omega) h0 (by have nn : (iA h 77).length = 25 := SS_n0 (XV_s76 V); omega) (by omega)
theorem s78a {t : Nat} {h : Hp} (V : XV t h) {z : Int} (h0 : 0 ≤ z) (h1 : z < 3) : aI h 100 78 (J z) = some (J (ia h 78 z)) := aI_J (SS_k1 (XV_s76 V)) h0 (by have nn : (iA h 78).length = 3 := SS_n1 (XV_s76 V); omega) (by omega)
theorem s78s {t : Nat} {h : Hp} (V : XV t h) {z v : Int} (h0 : 0 ≤ z) (h1 : z < 3) : sI h 100 78 (J z) (J v) = some (wA h 78 z v) := sI_J (SS_k1 (XV_s76 V)) (by omega) h0 (by have nn : (iA h 78).length = 3 := SS_n1 (XV_s76 V); omega) (by omega)
theorem sr85_0 {t : Nat} {h : Hp} (V : XV t h) : gR h 85 8 0 = some 86 := gR_e (SS_k (XV_s85 V)) (SS_r0 (XV_s85 V))
theorem sr85_1 {t : Nat} {h : Hp} (V : XV t h) : gR h 85 8 1 = some 87 := gR_e (SS_k (XV_s85 V)) (SS_r1 (XV_s85 V))
theorem s85i {t : Nat} {h : Hp} (V : XV t h) (k : Nat) : gI h 85 8 k = some (J (fi h 85 k)) := gI_J (SS_k (XV_s85 V))
theorem s85p {t : Nat} {h : Hp} (V : XV t h) (k : Nat) (v : Int) : pI h 85 8 k (J v) = some (wF h 85 k v) := pI_J (SS_k (XV_s85 V))
theorem s86a {t : Nat} {h : Hp} (V : XV t h) {z : Int} (h0 : 0 ≤ z) (h1 : z < 25) : aI h 100 86 (J z) = some (J (ia h 86 z)) := aI_J (SS_k0 (XV_s85 V)) h0 (by have nn : (iA h 86).length = 25 := SS_n0 (XV_s85 V); omega) (by omega)
theorem s86s {t : Nat} {h : Hp} (V : XV t h) {z v : Int} (h0 : 0 ≤ z) (h1 : z < 25) : sI h 100 86 (J z) (J v) = some (wA h 86 z v) := sI_J (SS_k0 (XV_s85 V)) (by omega) h0 (by have nn : (iA h 86).length = 25 := SS_n0 (XV_s85 V); omega) (by omega)
theorem s87a {t : Nat} {h : Hp} (V : XV t h) {z : Int} (h0 : 0 ≤ z) (h1 : z < 3) : aI h 100 87 (J z) = some (J (ia h 87 z)) := aI_J (SS_k1 (XV_s85 V)) h0 (by have nn : (iA h 87).length = 3 := SS_n1 (XV_s85 V); omega) (by omega)
theorem s87s {t : Nat} {h : Hp} (V : XV t h) {z v : Int} (h0 : 0 ≤ z) (h1 : z < 3) : sI h 100 87 (J z) (J v) = some (wA h 87 z v) := sI_J (SS_k1 (XV_s85 V)) (by omega) h0 (by have nn : (iA h 87).length = 3 := SS_n1 (XV_s85 V); omega) (by omega)
theorem rr50_1 {t : Nat} {h : Hp} (V : XV t h) : gR h 50 6 1 = some 51 := gR_e (RS_k (XV_r50 V)) (RS_r1 (XV_r50 V))
theorem r51a {t : Nat} {h : Hp} (V : XV t h) {z : Int} (h0 : 0 ≤ z) (h1 : z < 5) : aI h 100 51 (J z) = some (J (ia h 51 z)) := aI_J (RS_k1 (XV_r50 V)) h0 (by have nn : (iA h 51).length = 5 := RS_n1 (XV_r50 V); omega) (by omega)
theorem r51s {t : Nat} {h : Hp} (V : XV t h) {z v : Int} (h0 : 0 ≤ z) (h1 : z < 5) : sI h 100 51 (J z) (J v) = some (wA h 51 z v) := sI_J (RS_k1 (XV_r50 V)) (by omega) h0 (by have nn : (iA h 51).length = 5 := RS_n1 (XV_r50 V); omega) (by omega)
theorem rr50_2 {t : Nat} {h : Hp} (V : XV t h) : gR h 50 6 2 = some 52 := gR_e (RS_k (XV_r50 V)) (RS_r2 (XV_r50 V))
theorem r52a {t : Nat} {h : Hp} (V : XV t h) {z : Int} (h0 : 0 ≤ z) (h1 : z < 5) : aI h 100 52 (J z) = some (J (ia h 52 z)) := aI_J (RS_k2 (XV_r50 V)) h0 (by have nn : (iA h 52).length = 5 := RS_n2 (XV_r50 V); omega) (by omega)
theorem r52s {t : Nat} {h : Hp} (V : XV t h) {z v : Int} (h0 : 0 ≤ z) (h1 : z < 5) : sI h 100 52 (J z) (J v) = some (wA h 52 z v) := sI_J (RS_k2 (XV_r50 V)) (by omega) h0 (by have nn : (iA h 52).length = 5 := RS_n2 (XV_r50 V); omega) (by omega)
theorem rr50_3 {t : Nat} {h : Hp} (V : XV t h) : gR h 50 6 3 = some 53 := gR_e (RS_k (XV_r50 V)) (RS_r3 (XV_r50 V))
theorem r53a {t : Nat} {h : Hp} (V : XV t h) {z : Int} (h0 : 0 ≤ z) (h1 : z < 5) : aI h 100 53 (J z) = some (J (ia h 53 z)) := aI_J (RS_k3 (XV_r50 V)) h0 (by have nn : (iA h 53).length = 5 := RS_n3 (XV_r50 V); omega) (by omega)
theorem r53s {t : Nat} {h : Hp} (V : XV t h) {z v : Int} (h0 : 0 ≤ z) (h1 : z < 5) : sI h 100 53 (J z) (J v) = some (wA h 53 z v) := sI_J (RS_k3 (XV_r50 V)) (by omega) h0 (by have nn : (iA h 53).length = 5 := RS_n3 (XV_r50 V); omega) (by omega)
theorem r50i {t : Nat} {h : Hp} (V : XV t h) (k : Nat) : gI h 50 6 k = some (J (fi h 50 k)) := gI_J (RS_k (XV_r50 V))
theorem r50p {t : Nat} {h : Hp} (V : XV t h) (k : Nat) (v : Int) : pI h 50 6 k (J v) = some (wF h 50 k v) := pI_J (RS_k (XV_r50 V))
theorem rr58_1 {t : Nat} {h : Hp} (V : XV t h) : gR h 58 6 1 = some 59 := gR_e (RS_k (XV_r58 V)) (RS_r1 (XV_r58 V))
theorem r59a {t : Nat} {h : Hp} (V : XV t h) {z : Int} (h0 : 0 ≤ z) (h1 : z < 5) : aI h 100 59 (J z) = some (J (ia h 59 z)) := aI_J (RS_k1 (XV_r58 V)) h0 (by have nn : (iA h 59).length = 5 := RS_n1 (XV_r58 V); omega) (by omega)
theorem r59s {t : Nat} {h : Hp} (V : XV t h) {z v : Int} (h0 : 0 ≤ z) (h1 : z < 5) : sI h 100 59 (J z) (J v) = some (wA h 59 z v) := sI_J (RS_k1 (XV_r58 V)) (by omega) h0 (by have nn : (iA h 59).length = 5 := RS_n1 (XV_r58 V); omega) (by omega)
theorem rr58_2 {t : Nat} {h : Hp} (V : XV t h) : gR h 58 6 2 = some 60 := gR_e (RS_k (XV_r58 V)) (RS_r2 (XV_r58 V))
theorem r60a {t : Nat} {h : Hp} (V : XV t h) {z : Int} (h0 : 0 ≤ z) (h1 : z < 5) : aI h 100 60 (J z) = some (J (ia h 60 z)) := aI_J (RS_k2 (XV_r58 V)) h0 (by have nn : (iA h 60).length = 5 := RS_n2 (XV_r58 V); omega) (by omega)
theorem r60s {t : Nat} {h : Hp} (V : XV t h) {z v : Int} (h0 : 0 ≤ z) (h1 : z < 5) : sI h 100 60 (J z) (J v) = some (wA h 60 z v) := sI_J (RS_k2 (XV_r58 V)) (by omega) h0 (by have nn : (iA h 60).length = 5 := RS_n2 (XV_r58 V); omega) (by omega)
theorem rr58_3 {t : Nat} {h : Hp} (V : XV t h) : gR h 58 6 3 = some 61 := gR_e (RS_k (XV_r58 V)) (RS_r3 (XV_r58 V))
theorem r61a {t : Nat} {h : Hp} (V : XV t h) {z : Int} (h0 : 0 ≤ z) (h1 : z < 5) : aI h 100 61 (J z) = some (J (ia h 61 z)) := aI_J (RS_k3 (XV_r58 V)) h0 (by have nn : (iA h 61).length = 5 := RS_n3 (XV_r58 V); omega) (by omega)
theorem r61s {t : Nat} {h : Hp} (V : XV t h) {z v : Int} (h0 : 0 ≤ z) (h1 : z < 5) : sI h 100 61 (J z) (J v) = some (wA h 61 z v) := sI_J (RS_k3 (XV_r58 V)) (by omega) h0 (by have nn : (iA h 61).length = 5 := RS_n3 (XV_r58 V); omega) (by omega)
theorem r58i {t : Nat} {h : Hp} (V : XV t h) (k : Nat) : gI h 58 6 k = some (J (fi h 58 k)) := gI_J (RS_k (XV_r58 V))
theorem r58p {t : Nat} {h : Hp} (V : XV t h) (k : Nat) (v : Int) : pI h 58 6 k (J v) = some (wF h 58 k v) := pI_J (RS_k (XV_r58 V))
theorem rr72_1 {t : Nat} {h : Hp} (V : XV t h) : gR h 72 6 1 = some 73 := gR_e (RS_k (XV_r72 V)) (RS_r1 (XV_r72 V))
theorem r73a {t : Nat} {h : Hp} (V : XV t h) {z : Int} (h0 : 0 ≤ z) (h1 : z < 5) : aI h 100 73 (J z) = some (J (ia h 73 z)) := aI_J (RS_k1 (XV_r72 V)) h0 (by have nn : (iA h 73).length = 5 := RS_n1 (XV_r72 V); omega) (by omega)
theorem r73s {t : Nat} {h : Hp} (V : XV t h) {z v : Int} (h0 : 0 ≤ z) (h1 : z < 5) : sI h 100 73 (J z) (J v) = some (wA h 73 z v) := sI_J (RS_k1 (XV_r72 V)) (by omega) h0 (by have nn : (iA h 73).length = 5 := RS_n1 (XV_r72 V); omega) (by omega)
theorem rr72_2 {t : Nat} {h : Hp} (V : XV t h) : gR h 72 6 2 = some 74 := gR_e (RS_k (XV_r72 V)) (RS_r2 (XV_r72 V))
theorem r74a {t : Nat} {h : Hp} (V : XV t h) {z : Int} (h0 : 0 ≤ z) (h1 : z < 5) : aI h 100 74 (J z) = some (J (ia h 74 z)) := aI_J (RS_k2 (XV_r72 V)) h0 (by have nn : (iA h 74).length = 5 := RS_n2 (XV_r72 V); omega) (by omega)
theorem r74s {t : Nat} {h : Hp} (V : XV t h) {z v : Int} (h0 : 0 ≤ z) (h1 : z < 5) : sI h 100 74 (J z) (J v) = some (wA h 74 z v) := sI_J (RS_k2 (XV_r72 V)) (by omega) h0 (by have nn : (iA h 74).length = 5 := RS_n2 (XV_r72 V); omega) (by omega)
theorem rr72_3 {t : Nat} {h : Hp} (V : XV t h) : gR h 72 6 3 = some 75 := gR_e (RS_k (XV_r72 V)) (RS_r3 (XV_r72 V))
theorem r75a {t : Nat} {h : Hp} (V : XV t h) {z : Int} (h0 : 0 ≤ z) (h1 : z < 5) : aI h 100 75 (J z) = some (J (ia h 75 z)) := aI_J (RS_k3 (XV_r72 V)) h0 (by have nn : (iA h 75).length = 5 := RS_n3 (XV_r72 V); omega) (by omega)
theorem r75s {t : Nat} {h : Hp} (V : XV t h) {z v : Int} (h0 : 0 ≤ z) (h1 : z < 5) : sI h 100 75 (J z) (J v) = some (wA h 75 z v) := sI_J (RS_k3 (XV_r72 V)) (by omega) h0 (by have nn : (iA h 75).length = 5 := RS_n3 (XV_r72 V); omega) (by omega)
theorem r72i {t : Nat} {h : Hp} (V : XV t h) (k : Nat) : gI h 72 6 k = some (J (fi h 72 k)) := gI_J (RS_k (XV_r72 V))
theorem r72p {t : Nat} {h : Hp} (V : XV t h) (k : Nat) (v : Int) : pI h 72 6 k (J v) = some (wF h 72 k v) := pI_J (RS_k (XV_r72 V))
theorem rr80_1 {t : Nat} {h : Hp} (V : XV t h) : gR h 80 6 1 = some 81 := gR_e (RS_k (XV_r80 V)) (RS_r1 (XV_r80 V))
theorem r81a {t : Nat} {h : Hp} (V : XV t h) {z : Int} (h0 : 0 ≤ z) (h1 : z < 5) : aI h 100 81 (J z) = some (J (ia h 81 z)) := aI_J (RS_k1 (XV_r80 V)) h0 (by have nn : (iA h 81).length = 5 := RS_n1 (XV_r80 V); omega) (by omega)
theorem r81s {t : Nat} {h : Hp} (V : XV t h) {z v : Int} (h0 : 0 ≤ z) (h1 : z < 5) : sI h 100 81 (J z) (J v) = some (wA h 81 z v) := sI_J (RS_k1 (XV_r80 V)) (by omega) h0 (by have nn : (iA h 81).length = 5 := RS_n1 (XV_r80 V); omega) (by omega)
theorem rr80_2 {t : Nat} {h : Hp} (V : XV t h) : gR h 80 6 2 = some 82 := gR_e (RS_k (XV_r80 V)) (RS_r2 (XV_r80 V))
theorem r82a {t : Nat} {h : Hp} (V : XV t h) {z : Int} (h0 : 0 ≤ z) (h1 : z < 5) : aI h 100 82 (J z) = some (J (ia h 82 z)) := aI_J (RS_k2 (XV_r80 V)) h0 (by have nn : (iA h 82).length = 5 := RS_n2 (XV_r80 V); omega) (by omega)
theorem r82s {t : Nat} {h : Hp} (V : XV t h) {z v : Int} (h0 : 0 ≤ z) (h1 : z < 5) : sI h 100 82 (J z) (J v) = some (wA h 82 z v) := sI_J (RS_k2 (XV_r80 V)) (by omega) h0 (by have nn : (iA h 82).length = 5 := RS_n2 (XV_r80 V); omega) (by omega)
theorem rr80_3 {t : Nat} {h : Hp} (V : XV t h) : gR h 80 6 3 = some 83 := gR_e (RS_k (XV_r80 V)) (RS_r3 (XV_r80 V))
theorem r83a {t : Nat} {h : Hp} (V : XV t h) {z : Int} (h0 : 0 ≤ z) (h1 : z < 5) : aI h 100 83 (J z) = some (J (ia h 83 z)) := aI_J (RS_k3 (XV_r80 V)) h0 (by have nn : (iA h 83).length = 5 := RS_n3 (XV_r80 V); omega) (by omega)
theorem r83s {t : Nat} {h : Hp} (V : XV t h) {z v : Int} (h0 : 0 ≤ z) (h1 : z < 5) : sI h 100 83 (J z) (J v) = some (wA h 83 z v) := sI_J (RS_k3 (XV_r80 V)) (by omega) h0 (by have nn : (iA h 83).length = 5 := RS_n3 (XV_r80 V); omega) (by omega)
theorem r80i {t : Nat} {h : Hp} (V : XV t h) (k : Nat) : gI h 80 6 k = some (J (fi h 80 k)) := gI_J (RS_k (XV_r80 V))
theorem r80p {t : Nat} {h : Hp} (V : XV t h) (k : Nat) (v : Int) : pI h 80 6 k (J v) = some (wF h 80 k v) := pI_J (RS_k (XV_r80 V))
theorem e_i {t : Nat} {h : Hp} (V : XV t h) (k : Nat) : gI h 54 3 k = some (J (fi h 54 k)) := gI_J (ES_k (XV_e V))
theorem e_p {t : Nat} {h : Hp} (V : XV t h) (k : Nat) (v : Int) : pI h 54 3 k (J v) = some (wF h 54 k v) := pI_J (ES_k (XV_e V))
theorem e_r0 {t : Nat} {h : Hp} (V : XV t h) : gR h 54 3 0 = some 55 := gR_e (ES_k (XV_e V)) (ES_r0 (XV_e V))
theorem e_55a {t : Nat} {h : Hp} (V : XV t h) {z : Int} (h0 : 0 ≤ z) (h1 : z < 496) : aI h 100 55 (J z) = some (J (ia h 55 z)) := aI_J (ES_k0 (XV_e V)) h0 (by have nn : (iA h 55).length = 496 := ES_n0 (XV_e V); omega) (by omega)
theorem e_55s {t : Nat} {h : Hp} (V : XV t h) {z v : Int} (h0 : 0 ≤ z) (h1 : z < 496) : sI h 100 55 (J z) (J v) = some (wA h 55 z v) := sI_J (ES_k0 (XV_e V)) (by omega) h0 (by have nn : (iA h 55).length = 496 := ES_n0 (XV_e V); omega) (by omega)
theorem e_r1 {t : Nat} {h : Hp} (V : XV t h) : gR h 54 3 1 = some 56 := gR_e (ES_k (XV_e V)) (ES_r1 (XV_e V))
theorem e_56a {t : Nat} {h : Hp} (V : XV t h) {z : Int} (h0 : 0 ≤ z) (h1 : z < 93) : aI h 100 56 (J z) = some (J (ia h 56 z)) := aI_J (ES_k1 (XV_e V)) h0 (by have nn : (iA h 56).length = 93 := ES_n1 (XV_e V); omega) (by omega)
theorem e_56s {t : Nat} {h : Hp} (V : XV t h) {z v : Int} (h0 : 0 ≤ z) (h1 : z < 93) : sI h 100 56 (J z) (J v) = some (wA h 56 z v) := sI_J (ES_k1 (XV_e V)) (by omega) h0 (by have nn : (iA h 56).length = 93 := ES_n1 (XV_e V); omega) (by omega)
theorem p_i {t : Nat} {h : Hp} (V : XV t h) (k : Nat) : gI h 57 5 k = some (J (fi h 57 k)) := gI_J (PS_k (XV_p V))
theorem p_p {t : Nat} {h : Hp} (V : XV t h) (k : Nat) (v : Int) : pI h 57 5 k (J v) = some (wF h 57 k v) := pI_J (PS_k (XV_p V))
theorem p_r1 {t : Nat} {h : Hp} (V : XV t h) : gR h 57 5 1 = some 58 := gR_e (PS_k (XV_p V)) (PS_r1 (XV_p V))
theorem p_r2 {t : Nat} {h : Hp} (V : XV t h) : gR h 57 5 2 = some 62 := gR_e (PS_k (XV_p V)) (PS_r2 (XV_p V))
theorem p_r4 {t : Nat} {h : Hp} (V : XV t h) : gR h 57 5 4 = some 65 := gR_e (PS_k (XV_p V)) (PS_r4 (XV_p V))
theorem p_65a {t : Nat} {h : Hp} (V : XV t h) {z : Int} (h0 : 0 ≤ z) (h1 : z < 20) : aI h 100 65 (J z) = some (J (ia h 65 z)) := aI_J (PS_k4 (XV_p V)) h0 (by have nn : (iA h 65).length = 20 := PS_n4 (XV_p V); omega) (by omega)
theorem p_65s {t : Nat} {h : Hp} (V : XV t h) {z v : Int} (h0 : 0 ≤ z) (h1 : z < 20) : sI h 100 65 (J z) (J v) = some (wA h 65 z v) := sI_J (PS_k4 (XV_p V)) (by omega) h0 (by have nn : (iA h 65).length = 20 := PS_n4 (XV_p V); omega) (by omega)
theorem p_r5 {t : Nat} {h : Hp} (V : XV t h) : gR h 57 5 5 = some 66 := gR_e (PS_k (XV_p V)) (PS_r5 (XV_p V))
theorem p_66a {t : Nat} {h : Hp} (V : XV t h) {z : Int} (h0 : 0 ≤ z) (h1 : z < 3) : aI h 100 66 (J z) = some (J (ia h 66 z)) := aI_J (PS_k5 (XV_p V)) h0 (by have nn : (iA h 66).length = 3 := PS_n5 (XV_p V); omega) (by omega)
theorem p_66s {t : Nat} {h : Hp} (V : XV t h) {z v : Int} (h0 : 0 ≤ z) (h1 : z < 3) : sI h 100 66 (J z) (J v) = some (wA h 66 z v) := sI_J (PS_k5 (XV_p V)) (by omega) h0 (by have nn : (iA h 66).length = 3 := PS_n5 (XV_p V); omega) (by omega)
theorem p_r6 {t : Nat} {h : Hp} (V : XV t h) : gR h 57 5 6 = some 67 := gR_e (PS_k (XV_p V)) (PS_r6 (XV_p V))
theorem p_67a {t : Nat} {h : Hp} (V : XV t h) {z : Int} (h0 : 0 ≤ z) (h1 : z < 3) : aI h 100 67 (J z) = some (J (ia h 67 z)) := aI_J (PS_k6 (XV_p V)) h0 (by have nn : (iA h 67).length = 3 := PS_n6 (XV_p V); omega) (by omega)
theorem p_67s {t : Nat} {h : Hp} (V : XV t h) {z v : Int} (h0 : 0 ≤ z) (h1 : z < 3) : sI h 100 67 (J z) (J v) = some (wA h 67 z v) := sI_J (PS_k6 (XV_p V)) (by omega) h0 (by have nn : (iA h 67).length = 3 := PS_n6 (XV_p V); omega) (by omega)
theorem p_r7 {t : Nat} {h : Hp} (V : XV t h) : gR h 57 5 7 = some 68 := gR_e (PS_k (XV_p V)) (PS_r7 (XV_p V))
theorem p_68a {t : Nat} {h : Hp} (V : XV t h) {z : Int} (h0 : 0 ≤ z) (h1 : z < 3) : aI h 100 68 (J z) = some (J (ia h 68 z)) := aI_J (PS_k7 (XV_p V)) h0 (by have nn : (iA h 68).length = 3 := PS_n7 (XV_p V); omega) (by omega)
theorem p_68s {t : Nat} {h : Hp} (V : XV t h) {z v : Int} (h0 : 0 ≤ z) (h1 : z < 3) : sI h 100 68 (J z) (J v) = some (wA h 68 z v) := sI_J (PS_k7 (XV_p V)) (by omega) h0 (by have nn : (iA h 68).length = 3 := PS_n7 (XV_p V); omega) (by omega)
theorem p_r8 {t : Nat} {h : Hp} (V : XV t h) : gR h 57 5 8 = some 69 := gR_e (PS_k (XV_p V)) (PS_r8 (XV_p V))
theorem p_69a {t : Nat} {h : Hp} (V : XV t h) {z : Int} (h0 : 0 ≤ z) (h1 : z < 3) : aI h 100 69 (J z) = some (J (ia h 69 z)) := aI_J (PS_k8 (XV_p V)) h0 (by have nn : (iA h 69).length = 3 := PS_n8 (XV_p V); omega) (by omega)
theorem p_69s {t : Nat} {h : Hp} (V : XV t h) {z v : Int} (h0 : 0 ≤ z) (h1 : z < 3) : sI h 100 69 (J z) (J v) = some (wA h 69 z v) := sI_J (PS_k8 (XV_p V)) (by omega) h0 (by have nn : (iA h 69).length = 3 := PS_n8 (XV_p V); omega) (by omega)
theorem h_i {t : Nat} {h : Hp} (V : XV t h) (k : Nat) : gI h 70 2 k = some (J (fi h 70 k)) := gI_J (HS_k (XV_h V))
theorem h_p {t : Nat} {h : Hp} (V : XV t h) (k : Nat) (v : Int) : pI h 70 2 k (J v) = some (wF h 70 k v) := pI_J (HS_k (XV_h V))
theorem h_r1 {t : Nat} {h : Hp} (V : XV t h) : gR h 70 2 1 = some 71 := gR_e (HS_k (XV_h V)) (HS_r1 (XV_h V))
theorem h_71a {t : Nat} {h : Hp} (V : XV t h) {z : Int} (h0 : 0 ≤ z) (h1 : z < 8) : aI h 100 71 (J z) = some (J (ia h 71 z)) := aI_J (HS_k1 (XV_h V)) h0 (by have nn : (iA h 71).length = 8 := HS_n1 (XV_h V); omega) (by omega)
theorem h_71s {t : Nat} {h : Hp} (V : XV t h) {z v : Int} (h0 : 0 ≤ z) (h1 : z < 8) : sI h 100 71 (J z) (J v) = some (wA h 71 z v) := sI_J (HS_k1 (XV_h V)) (by omega) h0 (by have nn : (iA h 71).length = 8 := HS_n1 (XV_h V); omega) (by omega)
theorem h_r2 {t : Nat} {h : Hp} (V : XV t h) : gR h 70 2 2 = some 72 := gR_e (HS_k (XV_h V)) (HS_r2 (XV_h V))
theorem h_r3 {t : Nat} {h : Hp} (V : XV t h) : gR h 70 2 3 = some 76 := gR_e (HS_k (XV_h V)) (HS_r3 (XV_h V))
theorem g_i {t : Nat} {h : Hp} (V : XV t h) (k : Nat) : gI h 79 0 k = some (J (fi h 79 k)) := gI_J (GS_k (XV_g V))
theorem g_p {t : Nat} {h : Hp} (V : XV t h) (k : Nat) (v : Int) : pI h 79 0 k (J v) = some (wF h 79 k v) := pI_J (GS_k (XV_g V))
theorem g_r0 {t : Nat} {h : Hp} (V : XV t h) : gR h 79 0 0 = some 80 := gR_e (GS_k (XV_g V)) (GS_r0 (XV_g V))
theorem o_i {t : Nat} {h : Hp} (V : XV t h) (k : Nat) : gI h 84 4 k = some (J (fi h 84 k)) := gI_J (OS_k (XV_m V))
theorem o_p {t : Nat} {h : Hp} (V : XV t h) (k : Nat) (v : Int) : pI h 84 4 k (J v) = some (wF h 84 k v) := pI_J (OS_k (XV_m V))
theorem o_r4 {t : Nat} {h : Hp} (V : XV t h) : gR h 84 4 4 = some 85 := gR_e (OS_k (XV_m V)) (OS_r4 (XV_m V))
theorem o_l {t : Nat} {h : Hp} (V : XV t h) (k : Nat) : gL h 84 4 k = some (K (fl h 84 k)) := gL_J (OS_k (XV_m V))
theorem o_pl {t : Nat} {h : Hp} (V : XV t h) (k : Nat) (v : Int) : pL h 84 4 k (K v) = some (wG h 84 k v) := pL_J (OS_k (XV_m V))
theorem ti_0 {L : Lk} {t : Nat} {h : Hp} (T : TS t h) (R : TR L t h) : gI h t 10 0 = some (J (L 0 0)) := by rw [gI_J (TS_k T), TR_mi R]
theorem ti_1 {L : Lk} {t : Nat} {h : Hp} (T : TS t h) (R : TR L t h) : gI h t 10 1 = some (J (L 1 0)) := by rw [gI_J (TS_k T), TR_h R]
theorem ti_5 {L : Lk} {t : Nat} {h : Hp} (T : TS t h) (R : TR L t h) : gI h t 10 5 = some (J (L 2 0)) := by rw [gI_J (TS_k T), TR_r R]
theorem ti_8 {L : Lk} {t : Nat} {h : Hp} (T : TS t h) (R : TR L t h) : gI h t 10 8 = some (J (L 3 0)) := by rw [gI_J (TS_k T), TR_g R]
theorem ti_11 {L : Lk} {t : Nat} {h : Hp} (T : TS t h) (R : TR L t h) : gI h t 10 11 = some (J (L 4 0)) := by rw [gI_J (TS_k T), TR_d R]
theorem ti_14 {L : Lk} {t : Nat} {h : Hp} (T : TS t h) (R : TR L t h) : gI h t 10 14 = some (J (L 5 0)) := by rw [gI_J (TS_k T), TR_f R]
theorem ty_0 {L : Lk} {t : Nat} {h : Hp} (T : TS t h) (R : TR L t h) : gI h (t + 12) 1 0 = some (J (L 6 0)) := by rw [gI_J (TS_ky T), TR_v R]
theorem ty_4 {L : Lk} {t : Nat} {h : Hp} (T : TS t h) (R : TR L t h) : gI h (t + 12) 1 4 = some (J (L 7 0)) := by rw [gI_J (TS_ky T), TR_s R]
theorem trf_18 {t : Nat} {h : Hp} (T : TS t h) : gR h t 10 18 = some (t + 12) := gR_e (TS_k T) (TS_r18 T)
theorem trf_3 {t : Nat} {h : Hp} (T : TS t h) : gR h t 10 3 = some (t + 1) := gR_e (TS_k T) (TS_r3 T)
theorem ta_3 {L : Lk} {t : Nat} {h : Hp} (HL : LW L) (T : TS t h) (R : TR L t h) {z : Int} (h0 : 0 ≤ z) (h1 : z < L 1 0) : aI h 100 (t + 1) (J z) = some (J (L 10 z)) := by
  have n := TS_n3 T
  have b := LW_h HL
  rw [aI_J (TS_k3 T) h0 (by omega) (by omega), TR_w R z h0 h1]
theorem trf_4 {t : Nat} {h : Hp} (T : TS t h) : gR h t 10 4 = some (t + 2) := gR_e (TS_k T) (TS_r4 T)
theorem ta_4 {L : Lk} {t : Nat} {h : Hp} (HL : LW L) (T : TS t h) (R : TR L t h) {z : Int} (h0 : 0 ≤ z) (h1 : z < 25) : aI h 100 (t + 2) (J z) = some (J (L 11 z)) := by
  have n := TS_n4 T
  rw [aI_J (TS_k4 T) h0 (by omega) (by omega), TR_c R z h0 h1]
theorem trf_6 {t : Nat} {h : Hp} (T : TS t h) : gR h t 10 6 = some (t + 3) := gR_e (TS_k T) (TS_r6 T)
theorem ta_6 {L : Lk} {t : Nat} {h : Hp} (HL : LW L) (T : TS t h) (R : TR L t h) {z : Int} (h0 : 0 ≤ z) (h1 : z < L 2 0) : aI h 100 (t + 3) (J z) = some (J (L 13 z)) := by
  have n := TS_n6 T
  have b := LW_r HL
  rw [aI_J (TS_k6 T) h0 (by omega) (by omega), TR_o R z h0 h1]
theorem trf_7 {t : Nat} {h : Hp} (T : TS t h) : gR h t 10 7 = some (t + 4) := gR_e (TS_k T) (TS_r7 T)
theorem ta_7 {L : Lk} {t : Nat} {h : Hp} (HL : LW L) (T : TS t h) (R : TR L t h) {z : Int} (h0 : 0 ≤ z) (h1 : z < L 2 0) : aI h 100 (t + 4) (J z) = some (J (L 14 z)) := by
  have n := TS_n7 T
  have b := LW_r HL
  rw [aI_J (TS_k7 T) h0 (by omega) (by omega), TR_u R z h0 h1]
theorem trf_9 {t : Nat} {h : Hp} (T : TS t h) : gR h t 10 9 = some (t + 5) := gR_e (TS_k T) (TS_r9 T)
theorem ta_9 {L : Lk} {t : Nat} {h : Hp} (HL : LW L) (T : TS t h) (R : TR L t h) {z : Int} (h0 : 0 ≤ z) (h1 : z < L 3 0) : aI h 100 (t + 5) (J z) = some (J (L 15 z)) := by
  have n := TS_n9 T
  have b := LW_g HL
  rw [aI_J (TS_k9 T) h0 (by omega) (by omega), TR_gw R z h0 h1]
theorem trf_10 {t : Nat} {h : Hp} (T : TS t h) : gR h t 10 10 = some (t + 6) := gR_e (TS_k T) (TS_r10 T)
theorem ta_10 {L : Lk} {t : Nat} {h : Hp} (HL : LW L) (T : TS t h) (R : TR L t h) {z : Int} (h0 : 0 ≤ z) (h1 : z < L 3 0) : aI h 100 (t + 6) (J z) = some (J (L 16 z)) := by
  have n := TS_n10 T
  have b := LW_g HL
  rw [aI_J (TS_k10 T) h0 (by omega) (by omega), TR_ga R z h0 h1]
theorem trf_12 {t : Nat} {h : Hp} (T : TS t h) : gR h t 10 12 = some (t + 7) := gR_e (TS_k T) (TS_r12 T)
theorem ta_12 {L : Lk} {t : Nat} {h : Hp} (HL : LW L) (T : TS t h) (R : TR L t h) {z : Int} (h0 : 0 ≤ z) (h1 : z < L 4 0) : aI h 100 (t + 7) (J z) = some (J (L 17 z)) := by
  have n := TS_n12 T
  have b := LW_d HL
  rw [aI_J (TS_k12 T) h0 (by omega) (by omega), TR_dk R z h0 h1]
theorem trf_13 {t : Nat} {h : Hp} (T : TS t h) : gR h t 10 13 = some (t + 8) := gR_e (TS_k T) (TS_r13 T)
theorem ta_13 {L : Lk} {t : Nat} {h : Hp} (HL : LW L) (T : TS t h) (R : TR L t h) {z : Int} (h0 : 0 ≤ z) (h1 : z < L 4 0) : aI h 100 (t + 8) (J z) = some (J (L 18 z)) := by
  have n := TS_n13 T
  have b := LW_d HL
  rw [aI_J (TS_k13 T) h0 (by omega) (by omega), TR_dd R z h0 h1]
theorem trf_15 {t : Nat} {h : Hp} (T : TS t h) : gR h t 10 15 = some (t + 9) := gR_e (TS_k T) (TS_r15 T)
theorem ta_15 {L : Lk} {t : Nat} {h : Hp} (HL : LW L) (T : TS t h) (R : TR L t h) {z : Int} (h0 : 0 ≤ z) (h1 : z < L 5 0) : aI h 100 (t + 9) (J z) = some (J (L 19 z)) := by
  have n := TS_n15 T
  have b := LW_f HL
  rw [aI_J (TS_k15 T) h0 (by omega) (by omega), TR_fa R z h0 h1]
theorem trf_16 {t : Nat} {h : Hp} (T : TS t h) : gR h t 10 16 = some (t + 10) := gR_e (TS_k T) (TS_r16 T)
theorem ta_16 {L : Lk} {t : Nat} {h : Hp} (HL : LW L) (T : TS t h) (R : TR L t h) {z : Int} (h0 : 0 ≤ z) (h1 : z < L 5 0) : aI h 100 (t + 10) (J z) = some (J (L 20 z)) := by
  have n := TS_n16 T
  have b := LW_f HL
  rw [aI_J (TS_k16 T) h0 (by omega) (by omega), TR_fw R z h0 h1]
theorem trf_17 {t : Nat} {h : Hp} (T : TS t h) : gR h t 10 17 = some (t + 11) := gR_e (TS_k T) (TS_r17 T)
theorem ta_17 {L : Lk} {t : Nat} {h : Hp} (HL : LW L) (T : TS t h) (R : TR L t h) {z : Int} (h0 : 0 ≤ z) (h1 : z < L 5 0) : aI h 100 (t + 11) (J z) = some (J (L 21 z)) := by
  have n := TS_n17 T
  have b := LW_f HL
  rw [aI_J (TS_k17 T) h0 (by omega) (by omega), TR_fh R z h0 h1]
theorem try_1 {t : Nat} {h : Hp} (T : TS t h) : gR h (t + 12) 1 1 = some (t + 13) := gR_e (TS_ky T) (TS_ry1 T)
theorem tz_1 {L : Lk} {t : Nat} {h : Hp} (HL : LW L) (T : TS t h) (R : TR L t h) {z : Int} (h0 : 0 ≤ z) (h1 : z < L 6 0) : aI h 100 (t + 13) (J z) = some (J (L 22 z)) := by
  have n := TS_ny1 T
  have b := LW_v HL
  rw [aI_J (TS_ky1 T) h0 (by omega) (by omega), TR_vb R z h0 h1]
theorem try_2 {t : Nat} {h : Hp} (T : TS t h) : gR h (t + 12) 1 2 = some (t + 14) := gR_e (TS_ky T) (TS_ry2 T)
theorem tz_2 {L : Lk} {t : Nat} {h : Hp} (HL : LW L) (T : TS t h) (R : TR L t h) {z : Int} (h0 : 0 ≤ z) (h1 : z < L 6 0) : aI h 100 (t + 14) (J z) = some (J (L 23 z)) := by
  have n := TS_ny2 T
  have b := LW_v HL
  rw [aI_J (TS_ky2 T) h0 (by omega) (by omega), TR_vt R z h0 h1]
theorem try_3 {t : Nat} {h : Hp} (T : TS t h) : gR h (t + 12) 1 3 = some (t + 15) := gR_e (TS_ky T) (TS_ry3 T)
theorem tz_3 {L : Lk} {t : Nat} {h : Hp} (HL : LW L) (T : TS t h) (R : TR L t h) {z : Int} (h0 : 0 ≤ z) (h1 : z < L 6 0) : aI h 100 (t + 15) (J z) = some (J (L 24 z)) := by
  have n := TS_ny3 T
  have b := LW_v HL
  rw [aI_J (TS_ky3 T) h0 (by omega) (by omega), TR_vm R z h0 h1]
theorem try_5 {t : Nat} {h : Hp} (T : TS t h) : gR h (t + 12) 1 5 = some (t + 16) := gR_e (TS_ky T) (TS_ry5 T)
theorem tz_5 {L : Lk} {t : Nat} {h : Hp} (HL : LW L) (T : TS t h) (R : TR L t h) {z : Int} (h0 : 0 ≤ z) (h1 : z < L 7 0) : aI h 100 (t + 16) (J z) = some (J (L 25 z)) := by
  have n := TS_ny5 T
  have b := LW_s HL
  rw [aI_J (TS_ky5 T) h0 (by omega) (by omega), TR_sa R z h0 h1]
theorem try_6 {t : Nat} {h : Hp} (T : TS t h) : gR h (t + 12) 1 6 = some (t + 17) := gR_e (TS_ky T) (TS_ry6 T)
theorem tz_6 {L : Lk} {t : Nat} {h : Hp} (HL : LW L) (T : TS t h) (R : TR L t h) {z : Int} (h0 : 0 ≤ z) (h1 : z < L 7 0) : aI h 100 (t + 17) (J z) = some (J (L 26 z)) := by
  have n := TS_ny6 T
  have b := LW_s HL
  rw [aI_J (TS_ky6 T) h0 (by omega) (by omega), TR_sh R z h0 h1]
theorem cl_r {L : Lk} {b : Nat} {h : Hp} (C : RC L b h) : gR h 88 13 3 = some b := gR_e (MS_k C.1) C.2.1
theorem cl_q {L : Lk} {b : Nat} {h : Hp} (C : RC L b h) : gQ h 88 13 3 = some (some b) := by rw [gQ_J (MS_k C.1), C.2.1]
theorem ci_0 {L : Lk} {b : Nat} {h : Hp} (C : RC L b h) : gI h b 12 0 = some (J (L 0 0)) := by rw [gI_J (YS_k C.2.2.1), C.2.2.2.1.1.1]
theorem ci_1 {L : Lk} {b : Nat} {h : Hp} (C : RC L b h) : gI h b 12 1 = some (J (L 1 0)) := by rw [gI_J (YS_k C.2.2.1), C.2.2.2.1.1.2.1]
theorem ci_2 {L : Lk} {b : Nat} {h : Hp} (C : RC L b h) : gI h b 12 2 = some (J (L 2 0)) := by rw [gI_J (YS_k C.2.2.1), C.2.2.2.1.1.2.2.1]
theorem ci_3 {L : Lk} {b : Nat} {h : Hp} (C : RC L b h) : gI h b 12 3 = some (J (L 3 0)) := by rw [gI_J (YS_k C.2.2.1), C.2.2.2.1.1.2.2.2.1]
theorem ci_4 {L : Lk} {b : Nat} {h : Hp} (C : RC L b h) : gI h b 12 4 = some (J (L 4 0)) := by rw [gI_J (YS_k C.2.2.1), C.2.2.2.1.1.2.2.2.2.1]
theorem ci_5 {L : Lk} {b : Nat} {h : Hp} (C : RC L b h) : gI h b 12 5 = some (J (L 5 0)) := by rw [gI_J (YS_k C.2.2.1), C.2.2.2.1.1.2.2.2.2.2.1]
theorem ci_6 {L : Lk} {b : Nat} {h : Hp} (C : RC L b h) : gI h b 12 6 = some (J (L 6 0)) := by rw [gI_J (YS_k C.2.2.1), C.2.2.2.1.1.2.2.2.2.2.2.1]
theorem ci_7 {L : Lk} {b : Nat} {h : Hp} (C : RC L b h) : gI h b 12 7 = some (J (L 7 0)) := by rw [gI_J (YS_k C.2.2.1), C.2.2.2.1.1.2.2.2.2.2.2.2]
theorem cr_9 {L : Lk} {b : Nat} {h : Hp} (C : RC L b h) : gR h b 12 9 = some (b + 1) := gR_e (YS_k C.2.2.1) (YS_r9 C.2.2.1)
theorem ca_9 {L : Lk} {b : Nat} {h : Hp} (HL : LW L) (C : RC L b h) {z : Int} (h0 : 0 ≤ z) (h1 : z < L 1 0) : aI h 100 (b + 1) (J z) = some (J (L 9 z)) := by
  have n := YS_n9 C.2.2.1
  have b := LW_h HL
  rw [aI_J (YS_k9 C.2.2.1) h0 (by omega) (by omega), (C.2.2.2.1.2.1 z h0 h1).1]
theorem cr_10 {L : Lk} {b : Nat} {h : Hp} (C : RC L b h) : gR h b 12 10 = some (b + 2) := gR_e (YS_k C.2.2.1) (YS_r10 C.2.2.1)
theorem ca_10 {L : Lk} {b : Nat} {h : Hp} (HL : LW L) (C : RC L b h) {z : Int} (h0 : 0 ≤ z) (h1 : z < L 1 0) : aI h 100 (b + 2) (J z) = some (J (L 10 z)) := by
  have n := YS_n10 C.2.2.1
  have b := LW_h HL
  rw [aI_J (YS_k10 C.2.2.1) h0 (by omega) (by omega), (C.2.2.2.1.2.1 z h0 h1).2]
theorem cr_11 {L : Lk} {b : Nat} {h : Hp} (C : RC L b h) : gR h b 12 11 = some (b + 3) := gR_e (YS_k C.2.2.1) (YS_r11 C.2.2.1)
theorem ca_11 {L : Lk} {b : Nat} {h : Hp} (HL : LW L) (C : RC L b h) {z : Int} (h0 : 0 ≤ z) (h1 : z < 25) : aI h 100 (b + 3) (J z) = some (J (L 11 z)) := by
  have n := YS_n11 C.2.2.1
  rw [aI_J (YS_k11 C.2.2.1) h0 (by omega) (by omega), (C.2.2.2.1.2.2.1 z h0 h1)]
theorem cr_13 {L : Lk} {b : Nat} {h : Hp} (C : RC L b h) : gR h b 12 13 = some (b + 5) := gR_e (YS_k C.2.2.1) (YS_r13 C.2.2.1)
theorem ca_13 {L : Lk} {b : Nat} {h : Hp} (HL : LW L) (C : RC L b h) {z : Int} (h0 : 0 ≤ z) (h1 : z < L 2 0) : aI h 100 (b + 5) (J z) = some (J (L 13 z)) := by
  have n := YS_n13 C.2.2.1
  have b := LW_r HL
  rw [aI_J (YS_k13 C.2.2.1) h0 (by omega) (by omega), (C.2.2.2.1.2.2.2.1 z h0 h1).1]
theorem cr_14 {L : Lk} {b : Nat} {h : Hp} (C : RC L b h) : gR h b 12 14 = some (b + 6) := gR_e (YS_k C.2.2.1) (YS_r14 C.2.2.1)
theorem ca_14 {L : Lk} {b : Nat} {h : Hp} (HL : LW L) (C : RC L b h) {z : Int} (h0 : 0 ≤ z) (h1 : z < L 2 0) : aI h 100 (b + 6) (J z) = some (J (L 14 z)) := by
  have n := YS_n14 C.2.2.1
  have b := LW_r HL
  rw [aI_J (YS_k14 C.2.2.1) h0 (by omega) (by omega), (C.2.2.2.1.2.2.2.1 z h0 h1).2]
theorem cr_15 {L : Lk} {b : Nat} {h : Hp} (C : RC L b h) : gR h b 12 15 = some (b + 7) := gR_e (YS_k C.2.2.1) (YS_r15 C.2.2.1)
theorem ca_15 {L : Lk} {b : Nat} {h : Hp} (HL : LW L) (C : RC L b h) {z : Int} (h0 : 0 ≤ z) (h1 : z < L 3 0) : aI h 100 (b + 7) (J z) = some (J (L 15 z)) := by
  have n := YS_n15 C.2.2.1
  have b := LW_g HL
  rw [aI_J (YS_k15 C.2.2.1) h0 (by omega) (by omega), (C.2.2.2.1.2.2.2.2.1 z h0 h1).1]
theorem cr_16 {L : Lk} {b : Nat} {h : Hp} (C : RC L b h) : gR h b 12 16 = some (b + 8) := gR_e (YS_k C.2.2.1) (YS_r16 C.2.2.1)
theorem ca_16 {L : Lk} {b : Nat} {h : Hp} (HL : LW L) (C : RC L b h) {z : Int} (h0 : 0 ≤ z) (h1 : z < L 3 0) : aI h 100 (b + 8) (J z) = some (J (L 16 z)) := by
  have n := YS_n16 C.2.2.1
  have b := LW_g HL
  rw [aI_J (YS_k16 C.2.2.1) h0 (by omega) (by omega), (C.2.2.2.1.2.2.2.2.1 z h0 h1).2]
theorem cr_17 {L : Lk} {b : Nat} {h : Hp} (C : RC L b h) : gR h b 12 17 = some (b + 9) := gR_e (YS_k C.2.2.1) (YS_r17 C.2.2.1)
theorem ca_17 {L : Lk} {b : Nat} {h : Hp} (HL : LW L) (C : RC L b h) {z : Int} (h0 : 0 ≤ z) (h1 : z < L 4 0) : aI h 100 (b + 9) (J z) = some (J (L 17 z)) := by
  have n := YS_n17 C.2.2.1
  have b := LW_d HL
  rw [aI_J (YS_k17 C.2.2.1) h0 (by omega) (by omega), (C.2.2.2.1.2.2.2.2.2.1 z h0 h1).1]
theorem cr_18 {L : Lk} {b : Nat} {h : Hp} (C : RC L b h) : gR h b 12 18 = some (b + 10) := gR_e (YS_k C.2.2.1) (YS_r18 C.2.2.1)
theorem ca_18 {L : Lk} {b : Nat} {h : Hp} (HL : LW L) (C : RC L b h) {z : Int} (h0 : 0 ≤ z) (h1 : z < L 4 0) : aI h 100 (b + 10) (J z) = some (J (L 18 z)) := by
  have n := YS_n18 C.2.2.1
  have b := LW_d HL
  rw [aI_J (YS_k18 C.2.2.1) h0 (by omega) (by omega), (C.2.2.2.1.2.2.2.2.2.1 z h0 h1).2]
theorem cr_19 {L : Lk} {b : Nat} {h : Hp} (C : RC L b h) : gR h b 12 19 = some (b + 11) := gR_e (YS_k C.2.2.1) (YS_r19 C.2.2.1)
theorem ca_19 {L : Lk} {b : Nat} {h : Hp} (HL : LW L) (C : RC L b h) {z : Int} (h0 : 0 ≤ z) (h1 : z < L 5 0) : aI h 100 (b + 11) (J z) = some (J (L 19 z)) := by
  have n := YS_n19 C.2.2.1
  have b := LW_f HL
  rw [aI_J (YS_k19 C.2.2.1) h0 (by omega) (by omega), (C.2.2.2.1.2.2.2.2.2.2.1 z h0 h1).1]
theorem cr_20 {L : Lk} {b : Nat} {h : Hp} (C : RC L b h) : gR h b 12 20 = some (b + 12) := gR_e (YS_k C.2.2.1) (YS_r20 C.2.2.1)
theorem ca_20 {L : Lk} {b : Nat} {h : Hp} (HL : LW L) (C : RC L b h) {z : Int} (h0 : 0 ≤ z) (h1 : z < L 5 0) : aI h 100 (b + 12) (J z) = some (J (L 20 z)) := by
  have n := YS_n20 C.2.2.1
  have b := LW_f HL
  rw [aI_J (YS_k20 C.2.2.1) h0 (by omega) (by omega), (C.2.2.2.1.2.2.2.2.2.2.1 z h0 h1).2.1]
theorem cr_21 {L : Lk} {b : Nat} {h : Hp} (C : RC L b h) : gR h b 12 21 = some (b + 13) := gR_e (YS_k C.2.2.1) (YS_r21 C.2.2.1)
theorem ca_21 {L : Lk} {b : Nat} {h : Hp} (HL : LW L) (C : RC L b h) {z : Int} (h0 : 0 ≤ z) (h1 : z < L 5 0) : aI h 100 (b + 13) (J z) = some (J (L 21 z)) := by
  have n := YS_n21 C.2.2.1
  have b := LW_f HL
  rw [aI_J (YS_k21 C.2.2.1) h0 (by omega) (by omega), (C.2.2.2.1.2.2.2.2.2.2.1 z h0 h1).2.2]
theorem cr_22 {L : Lk} {b : Nat} {h : Hp} (C : RC L b h) : gR h b 12 22 = some (b + 14) := gR_e (YS_k C.2.2.1) (YS_r22 C.2.2.1)
theorem ca_22 {L : Lk} {b : Nat} {h : Hp} (HL : LW L) (C : RC L b h) {z : Int} (h0 : 0 ≤ z) (h1 : z < L 6 0) : aI h 100 (b + 14) (J z) = some (J (L 22 z)) := by
  have n := YS_n22 C.2.2.1
  have b := LW_v HL
  rw [aI_J (YS_k22 C.2.2.1) h0 (by omega) (by omega), (C.2.2.2.1.2.2.2.2.2.2.2.1 z h0 h1).1]
theorem cr_23 {L : Lk} {b : Nat} {h : Hp} (C : RC L b h) : gR h b 12 23 = some (b + 15) := gR_e (YS_k C.2.2.1) (YS_r23 C.2.2.1)
theorem ca_23 {L : Lk} {b : Nat} {h : Hp} (HL : LW L) (C : RC L b h) {z : Int} (h0 : 0 ≤ z) (h1 : z < L 6 0) : aI h 100 (b + 15) (J z) = some (J (L 23 z)) := by
  have n := YS_n23 C.2.2.1
  have b := LW_v HL
  rw [aI_J (YS_k23 C.2.2.1) h0 (by omega) (by omega), (C.2.2.2.1.2.2.2.2.2.2.2.1 z h0 h1).2.1]
theorem cr_24 {L : Lk} {b : Nat} {h : Hp} (C : RC L b h) : gR h b 12 24 = some (b + 16) := gR_e (YS_k C.2.2.1) (YS_r24 C.2.2.1)
theorem ca_24 {L : Lk} {b : Nat} {h : Hp} (HL : LW L) (C : RC L b h) {z : Int} (h0 : 0 ≤ z) (h1 : z < L 6 0) : aI h 100 (b + 16) (J z) = some (J (L 24 z)) := by
  have n := YS_n24 C.2.2.1
  have b := LW_v HL
  rw [aI_J (YS_k24 C.2.2.1) h0 (by omega) (by omega), (C.2.2.2.1.2.2.2.2.2.2.2.1 z h0 h1).2.2]
theorem cr_25 {L : Lk} {b : Nat} {h : Hp} (C : RC L b h) : gR h b 12 25 = some (b + 17) := gR_e (YS_k C.2.2.1) (YS_r25 C.2.2.1)
theorem ca_25 {L : Lk} {b : Nat} {h : Hp} (HL : LW L) (C : RC L b h) {z : Int} (h0 : 0 ≤ z) (h1 : z < L 7 0) : aI h 100 (b + 17) (J z) = some (J (L 25 z)) := by
  have n := YS_n25 C.2.2.1
  have b := LW_s HL
  rw [aI_J (YS_k25 C.2.2.1) h0 (by omega) (by omega), (C.2.2.2.1.2.2.2.2.2.2.2.2 z h0 h1).1]
theorem cr_26 {L : Lk} {b : Nat} {h : Hp} (C : RC L b h) : gR h b 12 26 = some (b + 18) := gR_e (YS_k C.2.2.1) (YS_r26 C.2.2.1)
theorem ca_26 {L : Lk} {b : Nat} {h : Hp} (HL : LW L) (C : RC L b h) {z : Int} (h0 : 0 ≤ z) (h1 : z < L 7 0) : aI h 100 (b + 18) (J z) = some (J (L 26 z)) := by
  have n := YS_n26 C.2.2.1
  have b := LW_s HL
  rw [aI_J (YS_k26 C.2.2.1) h0 (by omega) (by omega), (C.2.2.2.1.2.2.2.2.2.2.2.2 z h0 h1).2]
theorem m_i {h : Hp} (M : MS h) (k : Nat) : gI h 88 13 k = some (J (fi h 88 k)) := gI_J (MS_k M)
theorem m_p {h : Hp} (M : MS h) (k : Nat) (v : Int) : pI h 88 13 k (J v) = some (wF h 88 k v) := pI_J (MS_k M)
theorem m_l {h : Hp} (M : MS h) (k : Nat) : gL h 88 13 k = some (K (fl h 88 k)) := gL_J (MS_k M)
theorem m_pl {h : Hp} (M : MS h) (k : Nat) (v : Int) : pL h 88 13 k (K v) = some (wG h 88 k v) := pL_J (MS_k M)
theorem mr_15 {h : Hp} (M : MS h) : gR h 88 13 15 = some 90 := gR_e (MS_k M) (MS_r15 M)
theorem m90a {h : Hp} (M : MS h) {z : Int} (h0 : 0 ≤ z) (h1 : z < 31) : aI h 100 90 (J z) = some (J (ia h 90 z)) := aI_J (MS_k15 M) h0 (by have nn : (iA h 90).length = 31 := MS_n15 M; omega) (by omega)
theorem m90s {h : Hp} (M : MS h) {z v : Int} (h0 : 0 ≤ z) (h1 : z < 31) : sI h 100 90 (J z) (J v) = some (wA h 90 z v) := sI_J (MS_k15 M) (by omega) h0 (by have nn : (iA h 90).length = 31 := MS_n15 M; omega) (by omega)
theorem mr_16 {h : Hp} (M : MS h) : gR h 88 13 16 = some 91 := gR_e (MS_k M) (MS_r16 M)
theorem m91a {h : Hp} (M : MS h) {z : Int} (h0 : 0 ≤ z) (h1 : z < 31) : aI h 100 91 (J z) = some (J (ia h 91 z)) := aI_J (MS_k16 M) h0 (by have nn : (iA h 91).length = 31 := MS_n16 M; omega) (by omega)
theorem m91s {h : Hp} (M : MS h) {z v : Int} (h0 : 0 ≤ z) (h1 : z < 31) : sI h 100 91 (J z) (J v) = some (wA h 91 z v) := sI_J (MS_k16 M) (by omega) h0 (by have nn : (iA h 91).length = 31 := MS_n16 M; omega) (by omega)
theorem mr_17 {h : Hp} (M : MS h) : gR h 88 13 17 = some 92 := gR_e (MS_k M) (MS_r17 M)
theorem m92a {h : Hp} (M : MS h) {z : Int} (h0 : 0 ≤ z) (h1 : z < 496) : aI h 100 92 (J z) = some (J (ia h 92 z)) := aI_J (MS_k17 M) h0 (by have nn : (iA h 92).length = 496 := MS_n17 M; omega) (by omega)
theorem m92s {h : Hp} (M : MS h) {z v : Int} (h0 : 0 ≤ z) (h1 : z < 496) : sI h 100 92 (J z) (J v) = some (wA h 92 z v) := sI_J (MS_k17 M) (by omega) h0 (by have nn : (iA h 92).length = 496 := MS_n17 M; omega) (by omega)
theorem mr_18 {h : Hp} (M : MS h) : gR h 88 13 18 = some 93 := gR_e (MS_k M) (MS_r18 M)
theorem m93a {h : Hp} (M : MS h) {z : Int} (h0 : 0 ≤ z) (h1 : z < 93) : aI h 100 93 (J z) = some (J (ia h 93 z)) := aI_J (MS_k18 M) h0 (by have nn : (iA h 93).length = 93 := MS_n18 M; omega) (by omega)
theorem m93s {h : Hp} (M : MS h) {z v : Int} (h0 : 0 ≤ z) (h1 : z < 93) : sI h 100 93 (J z) (J v) = some (wA h 93 z v) := sI_J (MS_k18 M) (by omega) h0 (by have nn : (iA h 93).length = 93 := MS_n18 M; omega) (by omega)
theorem mr_21 {h : Hp} (M : MS h) : gR h 88 13 21 = some 94 := gR_e (MS_k M) (MS_r21 M)
theorem m94a {h : Hp} (M : MS h) {z : Int} (h0 : 0 ≤ z) (h1 : z < 3) : aI h 100 94 (J z) = some (J (ia h 94 z)) := aI_J (MS_k21 M) h0 (by have nn : (iA h 94).length = 3 := MS_n21 M; omega) (by omega)
theorem m94s {h : Hp} (M : MS h) {z v : Int} (h0 : 0 ≤ z) (h1 : z < 3) : sI h 100 94 (J z) (J v) = some (wA h 94 z v) := sI_J (MS_k21 M) (by omega) h0 (by have nn : (iA h 94).length = 3 := MS_n21 M; omega) (by omega)
theorem mr_22 {h : Hp} (M : MS h) : gR h 88 13 22 = some 95 := gR_e (MS_k M) (MS_r22 M)
theorem m95a {h : Hp} (M : MS h) {z : Int} (h0 : 0 ≤ z) (h1 : z < 3) : aI h 100 95 (J z) = some (J (ia h 95 z)) := aI_J (MS_k22 M) h0 (by have nn : (iA h 95).length = 3 := MS_n22 M; omega) (by omega)
theorem m95s {h : Hp} (M : MS h) {z v : Int} (h0 : 0 ≤ z) (h1 : z < 3) : sI h 100 95 (J z) (J v) = some (wA h 95 z v) := sI_J (MS_k22 M) (by omega) h0 (by have nn : (iA h 95).length = 3 := MS_n22 M; omega) (by omega)
theorem mr_23 {h : Hp} (M : MS h) : gR h 88 13 23 = some 96 := gR_e (MS_k M) (MS_r23 M)
theorem m96a {h : Hp} (M : MS h) {z : Int} (h0 : 0 ≤ z) (h1 : z < 3) : aI h 100 96 (J z) = some (J (ia h 96 z)) := aI_J (MS_k23 M) h0 (by have nn : (iA h 96).length = 3 := MS_n23 M; omega) (by omega)
theorem m96s {h : Hp} (M : MS h) {z v : Int} (h0 : 0 ≤ z) (h1 : z < 3) : sI h 100 96 (J z) (J v) = some (wA h 96 z v) := sI_J (MS_k23 M) (by omega) h0 (by have nn : (iA h 96).length = 3 := MS_n23 M; omega) (by omega)
theorem mr_24 {h : Hp} (M : MS h) : gR h 88 13 24 = some 97 := gR_e (MS_k M) (MS_r24 M)
theorem m97a {h : Hp} (M : MS h) {z : Int} (h0 : 0 ≤ z) (h1 : z < 3) : aI h 100 97 (J z) = some (J (ia h 97 z)) := aI_J (MS_k24 M) h0 (by have nn : (iA h 97).length = 3 := MS_n24 M; omega) (by omega)
theorem m97s {h : Hp} (M : MS h) {z v : Int} (h0 : 0 ≤ z) (h1 : z < 3) : sI h 100 97 (J z) (J v) = some (wA h 97 z v) := sI_J (MS_k24 M) (by omega) h0 (by have nn : (iA h 97).length = 3 := MS_n24 M; omega) (by omega)
theorem mr_25 {h : Hp} (M : MS h) : gR h 88 13 25 = some 98 := gR_e (MS_k M) (MS_r25 M)
theorem m98a {h : Hp} (M : MS h) {z : Int} (h0 : 0 ≤ z) (h1 : z < 3) : aI h 100 98 (J z) = some (J (ia h 98 z)) := aI_J (MS_k25 M) h0 (by have nn : (iA h 98).length = 3 := MS_n25 M; omega) (by omega)
theorem m98s {h : Hp} (M : MS h) {z v : Int} (h0 : 0 ≤ z) (h1 : z < 3) : sI h 100 98 (J z) (J v) = some (wA h 98 z v) := sI_J (MS_k25 M) (by omega) h0 (by have nn : (iA h 98).length = 3 := MS_n25 M; omega) (by omega)
theorem mr_30 {h : Hp} (M : MS h) : gR h 88 13 30 = some 99 := gR_e (MS_k M) (MS_r30 M)
theorem m99a {h : Hp} (M : MS h) {z : Int} (h0 : 0 ≤ z) (h1 : z < 900) : aI h 100 99 (J z) = some (J (ia h 99 z)) := aI_J (MS_k30 M) h0 (by have nn : (iA h 99).length = 900 := MS_n30 M; omega) (by omega)
theorem m99s {h : Hp} (M : MS h) {z v : Int} (h0 : 0 ≤ z) (h1 : z < 900) : sI h 100 99 (J z) (J v) = some (wA h 99 z v) := sI_J (MS_k30 M) (by omega) h0 (by have nn : (iA h 99).length = 900 := MS_n30 M; omega) (by omega)
theorem mr_31 {h : Hp} (M : MS h) : gR h 88 13 31 = some 100 := gR_e (MS_k M) (MS_r31 M)
theorem m100a {h : Hp} (M : MS h) {z : Int} (h0 : 0 ≤ z) (h1 : z < 4) : aI h 100 100 (J z) = some (J (ia h 100 z)) := aI_J (MS_k31 M) h0 (by have nn : (iA h 100).length = 4 := MS_n31 M; omega) (by omega)
theorem m100s {h : Hp} (M : MS h) {z v : Int} (h0 : 0 ≤ z) (h1 : z < 4) : sI h 100 100 (J z) (J v) = some (wA h 100 z v) := sI_J (MS_k31 M) (by omega) h0 (by have nn : (iA h 100).length = 4 := MS_n31 M; omega) (by omega)
theorem x_a {S : Sk} {h : Hp} (M : MS h) (X : XR S h) {z : Int} (h0 : 0 ≤ z) (h1 : z < 31) : aI h 100 91 (J z) = some (J (S z)) := by rw [m91a M h0 h1, X z h0 h1]

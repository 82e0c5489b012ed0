theorem zz_look : True := trivial
-- 2

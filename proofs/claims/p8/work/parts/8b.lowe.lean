theorem zz_8b_lowe : True := trivial

theorem zz_8g_lookr : True := trivial
